import java.util.ArrayList;
import java.util.HashMap;
import java.util.HashSet;
import java.util.List;
import java.util.Map;
import java.util.Set;

/** The three texts read anew, straight from the Terms: all TOKENS first, then LINES by patterns. */
final class TextModel {
    static final Map<String, String> SEA_LINES = Map.of("sea", "2-6 2-6", "thick", "X Y 1-9", "lump", "NAME X Y",
            "boat", "NAME X Y 0-9 1-9", "heat", "0-30", "cools", "0-5", "skin", "0-30");
    static final Map<String, String> BOOK_LINES = Map.of("stir", "row|column 0-5 on|back", "flour", "0-5 0-5 1-9",
            "milk", "0-5 0-5 1-9", "stove", "1-20", "day", "1-60");
    static final String SIDES = "east|south|west|north";
    private static final Set<String> WORDS = Set.of(("sea thick lump boat heat cools skin stir row column on back east "
            + "south west north flour milk stove day or and not eaten afloat landed by load depth left number").split(" "));

    /** A FAULT, thrown where it is found. */
    static final class Fault extends RuntimeException {
        private static final long serialVersionUID = 1L;
        final int kind;
        final int place;

        Fault(int kind, int place) {
            this.kind = kind;
            this.place = place;
        }
    }

    /** A TOKEN: w a WORD, n a NUMBER, s a sign, ? none, $ the end. */
    private record Token(char sort, String text, int begin) {
    }

    private final List<Token> tokens = new ArrayList<>();
    private int at = 0;
    /** LUMPS and BOATS by their NAMES: l or b, and the number. */
    final Map<String, String> names = new HashMap<>();
    final List<String[]> lines = new ArrayList<>();
    private final Set<String> told = new HashSet<>();
    private int wide = 4;
    private int high = 4;
    int ones = 0;

    TextModel(String text, int most) {
        int place = 0;
        while (place < text.length()) {
            int to = place;
            while (to < text.length() && text.substring(to, to + 1).matches("[a-z0-9]")) {
                to++;
            }
            to = Math.max(to, place + 1);
            String piece = text.substring(place, to);
            if (!piece.equals(" ") && !piece.equals("\n")) {
                tokens.add(new Token(sortOf(piece), piece, place));
            }
            place = to;
        }
        tokens.add(new Token('$', "", text.length()));
        if (text.length() > most) {
            tokens.removeIf(token -> token.begin >= most);
            tokens.add(new Token('?', "", most));
        }
    }

    private static char sortOf(String piece) {
        return piece.matches("[a-z]{1,7}") ? 'w' : piece.matches("[0-9]{1,3}") ? 'n' : piece.matches("[;<=>()]") ? 's'
                : '?';
    }

    private Token next() {
        return tokens.get(at);
    }

    private Fault fault(int kind) {
        return new Fault(kind, next().begin);
    }

    private String take(String choices) {
        String text = next().text;
        if (next().sort == '?' || next().sort == '$' || !List.of(choices.split("\\|")).contains(text)) {
            throw fault(1);
        }
        at++;
        return text;
    }

    private int number(int least, int most) {
        if (next().sort != 'n') {
            throw fault(1);
        }
        int value = Integer.parseInt(next().text);
        if (value < least || value > most) {
            throw fault(2);
        }
        at++;
        return value;
    }

    private boolean isName() {
        return next().sort == 'w' && !WORDS.contains(next().text);
    }

    // ---- a SEA ----

    int readSea() {
        while (next().sort != '$') {
            String word = next().text;
            if (next().sort != 'w' || !SEA_LINES.containsKey(word)) {
                throw fault(1);
            }
            boolean once = !SEA_LINES.get(word).contains("X");
            if (once && told.contains(word) || word.equals("sea") && told.contains("X")) {
                throw fault(3);
            }
            if (names.values().stream().filter(sort -> sort.startsWith(word.substring(0, 1))).count() == 6
                    && (word.equals("lump") || word.equals("boat"))) {
                throw fault(4);
            }
            at++;
            told.add(once ? word : "X");
            readSeaLine(word);
            take(";");
        }
        return lines.size();
    }

    private void readSeaLine(String word) {
        String[] parts = SEA_LINES.get(word).split(" ");
        String[] line = new String[parts.length + 1];
        line[0] = word;
        for (int i = 0; i < parts.length; i++) {
            switch (parts[i]) {
                case "NAME" -> line[i + 1] = newName(word);
                case "X" -> line[i + 1] = "" + number(0, wide - 1);
                case "Y" -> {
                    line[i + 1] = "" + number(0, high - 1);
                    String cell = word + " " + line[i] + " " + line[i + 1];
                    if (!word.equals("boat") && !told.add(cell)) {
                        at--;
                        throw fault(3);
                    }
                }
                default -> line[i + 1] = "" + within(parts[i]);
            }
        }
        if (word.equals("sea")) {
            wide = Integer.parseInt(line[1]);
            high = Integer.parseInt(line[2]);
        }
        lines.add(line);
    }

    private int within(String range) {
        String[] ends = range.split("-");
        return number(Integer.parseInt(ends[0]), Integer.parseInt(ends[1]));
    }

    private String newName(String word) {
        if (!isName()) {
            throw fault(1);
        }
        String name = next().text;
        if (names.containsKey(name)) {
            throw fault(3);
        }
        String sort = word.substring(0, 1);
        long many = names.values().stream().filter(other -> other.startsWith(sort)).count();
        names.put(name, sort + many);
        at++;
        return name;
    }

    // ---- a BOOK ----

    void readBook() {
        while (next().sort != '$') {
            String word = next().text;
            boolean boat = isName();
            if (!boat && (next().sort != 'w' || !BOOK_LINES.containsKey(word))) {
                throw fault(1);
            }
            if (boat && !names.getOrDefault(word, "none").startsWith("b")) {
                throw fault(3);
            }
            if (lines.size() == 40) {
                throw fault(4);
            }
            at++;
            String[] parts = (boat ? SIDES : BOOK_LINES.get(word)).split(" ");
            String[] line = new String[parts.length + 1];
            line[0] = word;
            for (int i = 0; i < parts.length; i++) {
                line[i + 1] = parts[i].contains("-") ? "" + within(parts[i]) : take(parts[i]);
            }
            lines.add(line);
            take(";");
        }
    }

    // ---- a SENTENCE: as nested texts that are judged when they are said ----

    /** Whether a BOAT is as ONE tells. */
    interface Judge {
        boolean holds(int b);
    }

    /** What a SENTENCE asks of the SEA as it is: numbers as boat(), lump() and count() tell them. */
    interface Facts {
        int ofBoat(int b, int what);

        int ofLump(int l, int what);

        int lumps();
    }

    Judge readSentence(Facts x) {
        Judge whole = cond(x, 1);
        if (next().sort != '$') {
            throw fault(1);
        }
        return whole;
    }

    private Judge cond(Facts x, int deep) {
        Judge first = all(x, deep);
        if (!next().text.equals("or")) {
            return first;
        }
        at++;
        Judge rest = cond(x, deep);
        return b -> first.holds(b) || rest.holds(b);
    }

    private Judge all(Facts x, int deep) {
        Judge first = one(x, deep);
        if (!next().text.equals("and")) {
            return first;
        }
        at++;
        Judge rest = all(x, deep);
        return b -> first.holds(b) && rest.holds(b);
    }

    private Judge one(Facts x, int deep) {
        String word = next().text;
        if (!List.of("not|(|eaten|afloat|landed|by|load|depth|left|number".split("\\|")).contains(word)) {
            throw fault(1);
        }
        if (ones == 20 || deep == 9) {
            throw fault(4);
        }
        ones++;
        at++;
        switch (word) {
            case "not":
                Judge other = one(x, deep + 1);
                return b -> !other.holds(b);
            case "(":
                Judge inner = cond(x, deep + 1);
                take(")");
                return inner;
            case "by":
                int l = lump();
                return b -> off(x, b, l) <= 1;
            case "eaten":
                return b -> x.ofBoat(b, 6) == 1;
            case "afloat":
                return b -> x.ofBoat(b, 7) == 1;
            case "landed":
                return b -> isLanded(x, b);
            default:
                String sign = take("<|=|>");
                int n = number(0, 999);
                return b -> compares(fact(x, b, word), sign, n);
        }
    }

    private int lump() {
        if (!isName()) {
            throw fault(1);
        }
        String sort = names.getOrDefault(next().text, "none");
        if (!sort.startsWith("l")) {
            throw fault(3);
        }
        at++;
        return sort.charAt(1) - '0';
    }

    private static int off(Facts x, int b, int l) {
        return Math.abs(x.ofBoat(b, 0) - x.ofLump(l, 0)) + Math.abs(x.ofBoat(b, 1) - x.ofLump(l, 1));
    }

    private static boolean isLanded(Facts x, int b) {
        boolean landed = false;
        for (int l = 0; l < x.lumps(); l++) {
            landed |= off(x, b, l) == 0;
        }
        return landed;
    }

    private static int fact(Facts x, int b, String word) {
        return word.equals("load") ? x.ofBoat(b, 2) : word.equals("depth") ? x.ofBoat(b, 5)
                : word.equals("left") ? x.ofBoat(b, 4) : b;
    }

    private static boolean compares(int value, String sign, int n) {
        return sign.equals("<") ? value < n : sign.equals(">") ? value > n : value == n;
    }
}

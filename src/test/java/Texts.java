import java.util.ArrayList;
import java.util.List;
import java.util.Random;

/** SEAS, BOOKS and SENTENCES by chance: whole ones, spoiled ones, and some as long as may be. */
final class Texts {
    private static final String[] POOL = ("sea thick lump boat heat cools skin stir row column on back east south west "
            + "north flour milk stove day or and not eaten afloat landed by load depth left number rock isle cup mug ; ; "
            + "< = > ( ) . ? abcdefgh 1a 0 1 2 3 4 5 6 7 9 10 20 21 30 31 60 61 999 1000").split(" ");

    private Texts() {
    }

    static String sea(Random random) {
        return text(seaTokens(random), 900, random);
    }

    /** Boats: their NAMES, parted by strokes. */
    static String book(Random random, String boats) {
        return text(bookTokens(random, boats), 400, random);
    }

    static String sentence(Random random, String lumps) {
        return text(sentenceTokens(random, lumps), 200, random);
    }

    private static String any(Random random, String choices) {
        String[] parts = choices.split("\\|");
        return parts[random.nextInt(parts.length)];
    }

    private static void add(List<String> tokens, String line) {
        tokens.addAll(List.of(line.split(" ")));
    }

    private static List<String> seaTokens(Random random) {
        List<String> tokens = new ArrayList<>();
        int wide = 2 + random.nextInt(5);
        int high = 2 + random.nextInt(5);
        add(tokens, "sea " + wide + " " + high + " ;");
        int lines = random.nextInt(random.nextInt(4) == 0 ? 40 : 10);
        String once = "";
        for (int i = 0; i < lines; i++) {
            String cell = random.nextInt(wide) + " " + random.nextInt(high);
            String name = "" + (char) ('a' + i % 26) + "bcdefg".substring(random.nextInt(7));
            String line = any(random, "thick|thick|lump|boat|heat|cools|skin");
            if (line.equals("thick")) {
                add(tokens, "thick " + cell + " " + (1 + random.nextInt(9)) + " ;");
            } else if (line.equals("lump")) {
                add(tokens, "lump " + name + " " + cell + " ;");
            } else if (line.equals("boat")) {
                add(tokens, "boat " + name + " " + cell + " " + random.nextInt(10) + " " + (1 + random.nextInt(9)) + " ;");
            } else if (!once.contains(line) || random.nextInt(20) == 0) {
                once += line;
                add(tokens, line + " " + random.nextInt(line.equals("cools") ? 6 : 31) + " ;");
            }
        }
        return tokens;
    }

    private static List<String> bookTokens(Random random, String boats) {
        List<String> tokens = new ArrayList<>();
        int lines = random.nextInt(4) == 0 ? 36 + random.nextInt(8) : random.nextInt(12);
        for (int i = 0; i < lines; i++) {
            String line = any(random, lines > 30 ? "day|stove|" + boats : "stir|flour|milk|stove|day|" + boats);
            switch (line) {
                case "stir" -> add(tokens, "stir " + any(random, "row|column") + " " + random.nextInt(6) + " "
                        + any(random, "on|back") + " ;");
                case "flour", "milk" -> add(tokens, line + " " + random.nextInt(5) + " " + random.nextInt(4) + " "
                        + (1 + random.nextInt(9)) + " ;");
                case "stove" -> add(tokens, "stove " + (1 + random.nextInt(20)) + " ;");
                case "day" -> add(tokens, "day " + (1 + random.nextInt(random.nextInt(6) == 0 ? 60 : 3)) + " ;");
                default -> add(tokens, line + " " + any(random, TextModel.SIDES) + " ;");
            }
        }
        return tokens;
    }

    private static List<String> sentenceTokens(Random random, String lumps) {
        List<String> tokens = new ArrayList<>();
        condTokens(tokens, random, lumps, random.nextInt(10));
        return tokens;
    }

    private static void condTokens(List<String> tokens, Random random, String lumps, int deep) {
        int parts = 1 + random.nextInt(random.nextInt(6) == 0 ? 5 : 2);
        for (int i = 0; i < parts; i++) {
            if (i > 0) {
                tokens.add(any(random, "or|and"));
            }
            oneTokens(tokens, random, lumps, deep - random.nextInt(3));
        }
    }

    private static void oneTokens(List<String> tokens, Random random, String lumps, int deep) {
        if (deep > 0 && tokens.size() < 60) {
            if (random.nextBoolean()) {
                tokens.add("not");
                oneTokens(tokens, random, lumps, deep - 1);
            } else {
                tokens.add("(");
                condTokens(tokens, random, lumps, deep - 1);
                tokens.add(")");
            }
            return;
        }
        String word = any(random, "eaten|afloat|landed|by|load|depth|left|number");
        tokens.add(word);
        if (word.equals("by")) {
            tokens.add(any(random, lumps));
        } else if ("load|depth|left|number".contains(word)) {
            tokens.add(any(random, "<|=|>"));
            tokens.add("" + random.nextInt(random.nextInt(9) == 0 ? 1000 : 7));
        }
    }

    /** The TOKENS as a text, spoiled or not, long or not. */
    private static String text(List<String> tokens, int most, Random random) {
        int edits = Math.max(0, random.nextInt(4) - 1);
        for (int i = 0; i < edits && !tokens.isEmpty(); i++) {
            int where = random.nextInt(tokens.size());
            switch (random.nextInt(4)) {
                case 0 -> tokens.set(where, POOL[random.nextInt(POOL.length)]);
                case 1 -> tokens.add(where, POOL[random.nextInt(POOL.length)]);
                case 2 -> tokens.remove(where);
                default -> tokens.set(where, tokens.get(random.nextInt(tokens.size())));
            }
        }
        StringBuilder text = new StringBuilder();
        int blank = random.nextInt(30);
        for (String token : tokens) {
            boolean tight = text.length() > 0 && ";()<=>".indexOf(text.charAt(text.length() - 1)) >= 0
                    || ";()<=>".contains(token);
            text.append(tight && random.nextInt(3) > 0 ? "" : blank == 0 && random.nextInt(9) == 0 ? "" : " \n".substring(
                    random.nextInt(2), 2)).append(token);
        }
        if (random.nextInt(5) == 0) {
            int want = Math.min(940, most - 6 + random.nextInt(14));
            int gap = text.indexOf(" ", random.nextInt(text.length() + 1));
            text.insert(Math.max(0, gap), " ".repeat(Math.max(0, want - text.length())));
        }
        return text.length() > 940 ? text.substring(0, 940) : text.toString();
    }
}

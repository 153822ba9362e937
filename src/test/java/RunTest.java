import java.lang.reflect.InvocationTargetException;
import java.lang.reflect.Method;
import java.nio.charset.StandardCharsets;
import java.util.ArrayList;
import java.util.Arrays;
import java.util.List;
import java.util.Map;
import java.util.NoSuchElementException;
import java.util.Random;
import java.util.TreeMap;

/** Whole runs of 512 calls by a fixed seed, made to the class and to the model: each answers the same. */
final class RunTest {
    private static final int RUNS = 700;
    private static final int CALLS = 512;
    /** How often calls come (the first number), and what may stand for each argument, least to most. */
    private static final String[] USUAL = {"1 fault", "2 thick 0-5 0-5", "2 lump 0-5 0-1", "6 boat 0-5 0-7", "6 now 0-7",
        "6 stir 0-1 0-5 0-1", "8 row 0-5 0-3", "3 flour 0-5 0-5 1-9", "3 milk 0-5 0-5 1-9", "2 stove 1-20", "3 days 1-4",
        "2 days 1-60", "8 undo", "2 cost 0-5 0-5", "2 skin", "3 way 0-5 0-5", "3 wayAt 0-5", "2 wayDays", "3 meet 0-5 0-5",
        "3 meetAt 0-2 0-2", "2 sunkAt 0-12", "1 send", "2 land 0-5", "2 mean 0-5 0-1", "2 fleet 1-30", "2 fleets",
        "2 chart 0-5", "4 byteAt 0-20", "2 drawn 1-3 -999-999", "2 drawn 1-60 -999-999", "1 odds 0-5 1-30 -999-999",
        "3 told 0-3", "3 said -1-3", "2 image 0-1", "1 restore 0-1", "3 count 0-6", "1 sea", "1 book 0-1", "1 sentence",
        "1 sunk", "1 end 0-20", "1 feed 0-999 0-999 0-999 0-999 0-999"};
    private static final int[] ODD = {Integer.MIN_VALUE, Integer.MIN_VALUE + 1, -1000, -2, -1, 0, 4, 6, 7, 9, 10, 20, 21,
        30, 31, 54, 55, 60, 61, 255, 256, 65536, 1 << 30, Integer.MAX_VALUE - 1, Integer.MAX_VALUE};

    private static final Map<String, Method> OF_CLASS = new TreeMap<>();
    private static final Map<String, Method> OF_MODEL = new TreeMap<>();
    /** What was answered, by the call's name and the sort of the answer. */
    private static final Map<String, Integer> SEEN = new TreeMap<>();

    private final Random random;
    private final PorridgeSea sea = new PorridgeSea();
    private final Model model = new Model();
    private final List<String> made = new ArrayList<>();
    private boolean same = true;

    private RunTest(int seed) {
        random = new Random(seed);
    }

    public static void main(String[] args) throws Exception {
        for (Method call : PorridgeSea.class.getDeclaredMethods()) {
            OF_CLASS.put(call.getName(), call);
        }
        for (Method call : Model.class.getDeclaredMethods()) {
            OF_MODEL.put(call.getName(), call);
        }
        for (int seed = 0; seed < RUNS; seed++) {
            new RunTest(seed).run();
        }
        everySortCame();
        Due.close("RunTest");
    }

    private void run() throws Exception {
        List<String> bag = new ArrayList<>();
        for (String usual : USUAL) {
            for (int i = usual.charAt(0) - '0'; i > 0; i--) {
                bag.add(usual);
            }
        }
        if (random.nextInt(8) > 0) {
            text(fullSea(), "sea");
        }
        if (random.nextInt(6) == 0) {
            for (int i = 0; i < 8; i++) {
                both("days", 48 + random.nextInt(13));
            }
        }
        while (made.size() < CALLS && same) {
            switch (random.nextInt(40)) {
                case 0 -> text(random.nextBoolean() ? Texts.sea(random) : fullSea(), "sea");
                case 1, 2, 3 -> text(Texts.book(random, model.names("b")), "book", random.nextInt(3) > 0 ? 1 : 0);
                case 4 -> text(Texts.sentence(random, model.names("l")), "sentence");
                case 5, 6 -> text(pairs(), "sunk");
                default -> usual(bag.get(random.nextInt(bag.size())));
            }
        }
    }

    // ---- calls ----

    private void usual(String usual) throws Exception {
        String[] parts = usual.split(" ");
        Object[] arguments = new Object[parts.length - 2];
        for (int i = 0; i < arguments.length; i++) {
            String range = parts[i + 2];
            int stroke = range.indexOf('-', 1);
            int least = Integer.parseInt(range.substring(0, stroke));
            int most = Integer.parseInt(range.substring(stroke + 1));
            boolean odd = random.nextInt(25) == 0;
            arguments[i] = odd ? ODD[random.nextInt(ODD.length)] : least + random.nextInt(most - least + 1);
        }
        both(parts[1], arguments);
    }

    /** A text comes behind the tape and, mostly, is read. */
    private void text(String text, String call, Object... arguments) throws Exception {
        String behind = ("77;a " + text).substring(random.nextInt(5)).repeat(20).substring(0, 20);
        byte[] bytes = (text + behind).getBytes(StandardCharsets.ISO_8859_1);
        if (random.nextInt(12) > 0) {
            both("end", 0);
        }
        int ahead = sea.count(6);
        for (int i = 0; i < text.length(); i += 20) {
            Object[] five = new Object[5];
            for (int j = 0; j < 5; j++) {
                int at = i + 4 * j;
                five[j] = (bytes[at] & 255) << 24 | (bytes[at + 1] & 255) << 16 | (bytes[at + 2] & 255) << 8
                        | bytes[at + 3] & 255;
            }
            both("feed", five);
        }
        both("end", ahead + text.length());
        if (random.nextInt(12) > 0) {
            both(call, arguments);
            both("fault");
        }
    }

    private void both(String name, Object... arguments) throws Exception {
        if (made.size() == CALLS || !same) {
            return;
        }
        String got = answer(OF_CLASS.get(name), sea, arguments);
        String want = answer(OF_MODEL.get(name), model, arguments);
        made.add(name + Arrays.toString(arguments) + " " + got);
        same = got.equals(want);
        Due.due(same ? name : String.join("\n", made), got, want);
        SEEN.merge(name + " " + sortOf(got), 1, Integer::sum);
    }

    private static String answer(Method call, Object of, Object... arguments) throws Exception {
        try {
            return "" + call.invoke(of, arguments);
        } catch (InvocationTargetException e) {
            return e.getCause() instanceof NoSuchElementException ? "none such" : "" + e.getCause();
        }
    }

    // ---- texts ----

    /** A SEA in which much can come about. */
    private String fullSea() {
        int wide = 2 + random.nextInt(5);
        int high = 2 + random.nextInt(5);
        StringBuilder text = new StringBuilder("sea " + wide + " " + high + ";");
        text.append("heat ").append(4 + random.nextInt(27)).append(";cools ").append(random.nextInt(3)).append(";skin ");
        text.append(random.nextInt(6)).append(';');
        boolean[] taken = new boolean[36];
        int lumps = random.nextInt(7);
        int boats = random.nextInt(8) == 0 ? 0 : 1 + random.nextInt(6);
        for (int cell = 0; cell < wide * high; cell++) {
            int thick = random.nextInt(2) * random.nextInt(10);
            text.append(thick == 0 ? "" : "thick " + cell % wide + " " + cell / wide + " " + thick + ";");
        }
        for (int l = 0; l < lumps; l++) {
            int cell = random.nextInt(wide * high);
            text.append(taken[cell] ? "" : "lump l" + "ump".substring(0, l / 2) + (char) ('a' + l) + " " + cell % wide + " "
                    + cell / wide + ";");
            taken[cell] = true;
        }
        for (int b = 0; b < boats; b++) {
            text.append("boat " + (char) ('a' + b) + "oatboa".substring(b) + " " + random.nextInt(wide) + " "
                    + random.nextInt(high) + " " + random.nextInt(10) + " " + (1 + random.nextInt(9)) + ";");
        }
        return text.toString();
    }

    private String pairs() {
        StringBuilder text = new StringBuilder();
        int pairs = random.nextInt(9) == 0 ? 6 + random.nextInt(2) : random.nextInt(3);
        for (int i = 0; i <= pairs; i++) {
            text.append((char) random.nextInt(Math.max(1, sea.count(3)))).append((char) random.nextInt(2));
        }
        if (random.nextInt(9) == 0) {
            text.setCharAt(random.nextInt(text.length()), (char) random.nextInt(256));
        }
        return random.nextInt(20) == 0 ? text.substring(1) : text.toString();
    }

    // ---- what came ----

    private static String sortOf(String answer) {
        boolean number = answer.matches("-?[0-9]+");
        return !number ? answer : answer.equals("0") ? "0" : answer.equals("-1") ? "NONE" : answer.startsWith("-") ? "-" : "+";
    }

    /** So that a run that asks nothing of weight is noticed. */
    private static void everySortCame() {
        String[] sorts = {"NONE + feed", "true false end image restore", "- 0 + sea fault", "NONE 0 + thick lump now",
            "none_such 0 + boat mean", "NONE 0 + stir row flour milk stove days drawn undo skin way meet sunk odds said",
            "NONE 0 + wayAt wayDays meetAt sunkAt send fleets told count", "NONE + cost land fleet chart byteAt",
            "NONE - 0 + book", "- + sentence"};
        for (String line : sorts) {
            List<String> words = List.of(line.split(" "));
            for (String name : words) {
                for (String sort : words) {
                    String key = name + " " + sort.replace('_', ' ');
                    boolean due = OF_CLASS.containsKey(name) && !OF_CLASS.containsKey(sort) && !name.equals(sort);
                    boolean never = List.of("fault -", "fleets 0").contains(key);
                    if (due && !never) {
                        Due.due("'" + key + "' was answered", SEEN.getOrDefault(key, 0) > 5, true);
                    }
                }
            }
        }
    }
}

import java.lang.reflect.Constructor;
import java.lang.reflect.Field;
import java.lang.reflect.InvocationTargetException;
import java.lang.reflect.Method;
import java.lang.reflect.Modifier;
import java.util.Arrays;
import java.util.Comparator;
import java.util.NoSuchElementException;
import java.util.Random;

/** Any calls in any state: what may be thrown, where, and that the face is the document's. */
final class AnyCallTest {
    private static final String FACE = "boat 2, book 1, byteAt 1, chart 1, cost 2, count 1, days 1, drawn 2, end 1, "
            + "fault 0, feed 5, fleet 1, fleets 0, flour 3, image 1, land 1, lump 2, mean 2, meet 2, meetAt 2, milk 3, "
            + "now 1, odds 3, restore 1, row 2, said 1, sea 0, send 0, sentence 0, skin 0, stir 3, stove 1, sunk 0, "
            + "sunkAt 1, thick 2, told 1, undo 0, way 2, wayAt 1, wayDays 0";
    /** The calls after which the SEA may be another. */
    private static final String ACTS = " sea stir row flour milk stove days undo drawn book restore ";
    private static final int[] ODD = {Integer.MIN_VALUE, Integer.MIN_VALUE + 1, -1000, -2, -1, 7, 60, 61, 255, 1000,
        Integer.MAX_VALUE - 1, Integer.MAX_VALUE};
    private static final String[] WORDS = {"sea", "thick", "lump", "boat", "heat", "cools", "skin", "stir", "row",
        "column", "on", "back", "east", "south", "west", "north", "flour", "milk", "stove", "day", "or", "and", "not",
        "eaten", "afloat", "landed", "by", "load", "depth", "left", "number", "rock", "isle", "cup", "mug", ";", ";",
        ";", "<", "=", ">", "(", ")", ".", "?", "abcdefgh", "1a"};

    private AnyCallTest() {
    }

    public static void main(String[] args) throws Exception {
        Method[] calls = face();
        for (int seed = 0; seed < 1500; seed++) {
            run(calls, new Random(seed));
        }
        Due.close("AnyCallTest");
    }

    private static Method[] face() {
        StringBuilder names = new StringBuilder();
        Method[] calls = Arrays.stream(PorridgeSea.class.getDeclaredMethods())
                .filter(m -> !Modifier.isPrivate(m.getModifiers()))
                .sorted(Comparator.comparing(Method::getName))
                .toArray(Method[]::new);
        for (Method call : calls) {
            Due.due(call.getName() + " is public", Modifier.isPublic(call.getModifiers()), true);
            names.append(names.length() == 0 ? "" : ", ").append(call.getName()).append(' ')
                    .append(call.getParameterCount());
        }
        Due.due("the face", names.toString(), FACE);
        for (Field field : PorridgeSea.class.getDeclaredFields()) {
            Due.due(field.getName() + " is private", Modifier.isPrivate(field.getModifiers()),
                    !field.getName().equals("NONE"));
        }
        Constructor<?>[] constructors = PorridgeSea.class.getDeclaredConstructors();
        Due.due("constructors", constructors.length, 1);
        Due.due("the class is public and final", PorridgeSea.class.getModifiers(), Modifier.PUBLIC | Modifier.FINAL);
        return calls;
    }

    private static void run(Method[] calls, Random random) throws Exception {
        PorridgeSea x = new PorridgeSea();
        for (int i = 0; i < 60; i++) {
            if (random.nextInt(3) == 0) {
                x.end(0);
                Due.tape(x, text(random));
                readTape(x, random.nextInt(4));
            } else {
                call(x, calls[random.nextInt(calls.length)], random);
            }
        }
    }

    private static void readTape(PorridgeSea x, int how) {
        int answer = how == 0 ? x.sea() : how == 1 ? x.book(1) : how == 2 ? x.sentence() : x.sunk();
        boolean fault = how == 1 ? answer < -1 : answer < 0;
        if (how != 3) {
            Due.due("a FAULT has a kind", x.fault() > 0, fault);
        }
        Due.due("the tape is empty", x.count(6), 0);
    }

    private static String text(Random random) {
        switch (random.nextInt(6)) {
            case 0:
                return changed("sea 3 3;thick 0 0 3;thick 1 0 6;lump rock 2 0;lump isle 2 1;boat cup 0 0 3 2;"
                        + "boat mug 1 1 5 4;heat 16;cools 2;skin 2;", random);
            case 1:
                return changed("stir row 0 on;stir column 1 back;cup east;mug north;flour 1 1 3;milk 0 0 1;stove 4;"
                        + "day 2;", random);
            case 2:
                return changed("not (eaten or by rock) and load < 5 or (afloat and landed) and number > 0", random);
            case 3:
                return changed("\0\1\1\0", random);
            default:
                return mixed(random);
        }
    }

    private static String changed(String text, Random random) {
        if (random.nextInt(2) == 0) {
            return text;
        }
        int at = random.nextInt(text.length());
        int to = Math.min(text.length(), at + random.nextInt(4));
        return text.substring(0, at) + WORDS[random.nextInt(WORDS.length)] + text.substring(to);
    }

    private static String mixed(Random random) {
        StringBuilder text = new StringBuilder();
        int tokens = random.nextInt(200);
        for (int i = 0; i < tokens && text.length() < 920; i++) {
            text.append(random.nextInt(3) == 0 ? "" + random.nextInt(12) : WORDS[random.nextInt(WORDS.length)]);
            text.append(random.nextInt(4) == 0 ? "" : " ");
        }
        return text.toString();
    }

    private static void call(PorridgeSea x, Method call, Random random) throws Exception {
        Object[] arguments = new Object[call.getParameterCount()];
        for (int i = 0; i < arguments.length; i++) {
            arguments[i] = random.nextInt(4) == 0 ? ODD[random.nextInt(ODD.length)] : random.nextInt(7) - 1;
        }
        String before = Due.state(x);
        try {
            call.invoke(x, arguments);
            if (!ACTS.contains(" " + call.getName() + " ")) {
                Due.due(call.getName() + Arrays.toString(arguments) + " is no act", Due.state(x), before);
            }
        } catch (InvocationTargetException e) {
            boolean may = call.getName().equals("boat") || call.getName().equals("mean");
            Due.due(call.getName() + Arrays.toString(arguments) + " throws " + e.getCause(),
                    may && e.getCause() instanceof NoSuchElementException, true);
            Due.due("a call that throws changes nothing", Due.state(x), before);
        }
    }
}

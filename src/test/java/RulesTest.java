import java.lang.management.ManagementFactory;
import java.lang.reflect.Array;
import java.lang.reflect.Executable;
import java.lang.reflect.Field;
import java.lang.reflect.Method;
import java.lang.reflect.Modifier;
import java.nio.file.Files;
import java.nio.file.Path;
import java.util.ArrayDeque;
import java.util.ArrayList;
import java.util.Collections;
import java.util.Deque;
import java.util.HashSet;
import java.util.IdentityHashMap;
import java.util.List;
import java.util.NoSuchElementException;
import java.util.Set;
import java.util.TreeSet;

/** What of LANGUAGE.md can be seen by looking at the class, and how much room an object takes. */
final class RulesTest {
    private static final Path DOCUMENT = Path.of("../shared/DOC.md");
    private static final Path SOURCE = Path.of("src/main/java/PorridgeSea.java");
    /** What the rules leave out, or what the class has no need of. */
    private static final String[] NOT_WRITTEN = {"package ", "->", "::", "try", "catch", "finally", "synchronized",
        "assert", "static {", "instanceof", "Exact", "\" +", "+ \"", "Object", "Random", "Thread", "System.out",
        "System.err", "currentTime", "nanoTime", "equals", "hashCode", "toString", "@SuppressWarnings", "while (true)",
        "for (;;)", "import static"};

    private RulesTest() {
    }

    public static void main(String[] args) throws Exception {
        String source = Files.readString(SOURCE);
        if (Files.isReadable(DOCUMENT)) {
            face(Files.readString(DOCUMENT));
        } else {
            System.out.println("without " + DOCUMENT + " AnyCallTest alone looks at the face");
        }
        written(source);
        shortMethods(source);
        List<Class<?>> classes = new ArrayList<>(List.of(PorridgeSea.class.getDeclaredClasses()));
        for (Class<?> inside : classes) {
            Due.due(inside + " is private and static", Modifier.isPrivate(inside.getModifiers())
                    && Modifier.isStatic(inside.getModifiers()), true);
        }
        classes.add(PorridgeSea.class);
        Due.due("twelve classes at most", classes.size() <= 12, true);
        for (Class<?> each : classes) {
            members(each);
        }
        room();
        callsMakeNothing();
        Due.close("RulesTest");
    }

    // ---- the face ----

    /** The face as the document writes it, without the names of parameters, and as the class has it. */
    private static void face(String document) {
        String block = document.substring(document.indexOf("public final class PorridgeSea {"));
        Set<String> want = new TreeSet<>();
        for (String line : block.substring(0, block.indexOf("```")).split("\n")) {
            String plain = line.trim().replaceAll("(int|boolean) [a-z]+(?=[,)])", "$1");
            if (plain.endsWith(");") || plain.endsWith("Exception;")) {
                want.add(plain.substring(0, plain.length() - 1));
            }
        }
        Set<String> got = new TreeSet<>();
        for (Executable each : PorridgeSea.class.getConstructors()) {
            got.add(plain(each));
        }
        for (Executable each : PorridgeSea.class.getDeclaredMethods()) {
            if (!Modifier.isPrivate(each.getModifiers())) {
                got.add(plain(each));
            }
        }
        Due.due("what the document's face has", want.size(), 41);
        Due.due("the face", got.toString(), want.toString());
        Due.due("NONE", PorridgeSea.NONE, -1);
    }

    private static String plain(Executable each) {
        return each.toGenericString().replace("PorridgeSea.", "").replace(",", ", ").replace("java.util.", "");
    }

    // ---- the text ----

    private static void written(String source) {
        String code = source.replaceAll("(?s)/\\*.*?\\*/", "").replaceAll("//.*", "");
        for (String not : NOT_WRITTEN) {
            Due.due("'" + not + "' stands in the class", code.contains(not), false);
        }
        Due.due("imports", code.split("import ").length - 1, 1);
        Due.due("what is imported", code.contains("import java.util.NoSuchElementException;"), true);
        Due.due("throws: of boat() and of mean()", code.split("throw new ").length - 1, 2);
        Due.due("signs 10 and 32 to 126 alone", source.matches("[\\n -~]*"), true);
    }

    private static void shortMethods(String source) {
        int from = 0;
        int line = 0;
        for (String text : source.split("\n")) {
            line++;
            boolean head = text.matches("( {4}| {8})[A-Za-z].*\\{") && !text.contains(" class ");
            from = head ? line : from;
            boolean foot = text.matches("( {4}| {8})\\}") && from > 0;
            if (foot) {
                Due.due("lines of the method at line " + from + ": sixty at most", line - from + 1 <= 60, true);
                from = 0;
            }
        }
    }

    // ---- members ----

    private static void members(Class<?> of) {
        Set<String> face = new HashSet<>();
        for (Method method : PorridgeSea.class.getDeclaredMethods()) {
            if (Modifier.isPublic(method.getModifiers())) {
                face.add(method.getName());
            }
        }
        for (Method method : of.getDeclaredMethods()) {
            boolean ofFace = of == PorridgeSea.class && Modifier.isPublic(method.getModifiers());
            Due.due(of + "." + method.getName() + " bears a name of the face", face.contains(method.getName()), ofFace);
            Due.due(method.getName() + ": seven parameters at most", method.getParameterCount() <= 7, true);
        }
        int fields = 0;
        for (Field field : of.getDeclaredFields()) {
            boolean still = Modifier.isStatic(field.getModifiers());
            fields += still ? 0 : 1;
            Due.due(of + "." + field.getName() + " is a constant", !still || Modifier.isFinal(field.getModifiers())
                    && (field.getType() == int.class || field.getType() == String.class), true);
        }
        Due.due(of + ": twenty fields at most", fields <= 20, true);
    }

    // ---- room ----

    /** Objects and elements that an object has from its first call to its last. */
    private static void room() throws IllegalAccessException {
        PorridgeSea x = Due.made("sea 6 6;lump rock 0 0;boat cup 1 1 1 1;");
        Set<Object> seen = Collections.newSetFromMap(new IdentityHashMap<>());
        Deque<Object> open = new ArrayDeque<>(List.of(x));
        long elements = 0;
        while (!open.isEmpty()) {
            Object next = open.pop();
            if (seen.add(next)) {
                elements += next.getClass().isArray() ? Array.getLength(next) : open(next, open);
                for (int i = 0; next instanceof Object[] row && i < row.length; i++) {
                    open.push(row[i]);
                }
            }
        }
        Due.due(seen.size() + " objects: 200 at most", seen.size() <= 200, true);
        Due.due(elements + " fields and elements: 4,000 at most", elements <= 4000, true);
    }

    /** How many fields; what they hold is looked at later. */
    private static int open(Object of, Deque<Object> open) throws IllegalAccessException {
        int fields = 0;
        for (Field field : of.getClass().getDeclaredFields()) {
            if (!Modifier.isStatic(field.getModifiers())) {
                fields++;
                field.setAccessible(true);
                if (!field.getType().isPrimitive()) {
                    open.push(field.get(of));
                }
            }
        }
        return fields;
    }

    private static void callsMakeNothing() {
        com.sun.management.ThreadMXBean meter = (com.sun.management.ThreadMXBean) ManagementFactory.getThreadMXBean();
        PorridgeSea x = new PorridgeSea();
        many(x);
        long before = meter.getCurrentThreadAllocatedBytes();
        many(x);
        long bytes = meter.getCurrentThreadAllocatedBytes() - before;
        Due.due("calls made objects of " + bytes + " bytes", bytes < 1000, true);
    }

    /** Each call of the face but those that throw; texts as numbers, so that the test makes nothing either. */
    private static void many(PorridgeSea x) {
        // "lump a 0 0;lump b 2 " "2;boat c 1 1 2 3;   "
        x.feed(0x6c756d70, 0x20612030, 0x20303b6c, 0x756d7020, 0x62203220);
        x.feed(0x323b626f, 0x61742063, 0x20312031, 0x20322033, 0x3b202020);
        x.sea();
        for (int i = 0; i < 200; i++) {
            // "c east;day 1;stove 2"
            x.feed(0x63206561, 0x73743b64, 0x61792031, 0x3b73746f, 0x76652032);
            x.feed(0x3b202020, 0, 0, 0, 0);
            x.end(24);
            x.book(i % 3);
            x.end(0);
            // "not by a or depth < 3"
            x.feed(0x6e6f7420, 0x62792061, 0x206f7220, 0x64657074, 0x68203c20);
            x.feed(0x33202020, 0, 0, 0, 0);
            x.end(21);
            x.sentence();
            x.feed(1, 0, 0, 0, 0);
            x.end(i % 5);
            x.sunk();
            acts(x, i);
            questions(x, i);
        }
    }

    private static void acts(PorridgeSea x, int i) {
        x.stir(i % 2, i % 5, i / 2 % 2);
        x.row(0, i % 4);
        x.flour(i % 4, i % 3, 2);
        x.milk(i % 3, i % 4, 1);
        x.stove(2);
        x.days(1);
        x.drawn(1, i);
        x.undo();
        x.undo();
        x.image(i % 3);
        x.restore(i % 2);
    }

    private static void questions(PorridgeSea x, int i) {
        x.fault();
        x.thick(i % 5, 0);
        x.lump(i % 3, 0);
        x.now(i % 9);
        x.cost(i % 5, 0);
        x.skin();
        x.way(0, i % 3);
        x.wayAt(0);
        x.wayDays();
        x.meet(0, i % 3);
        x.meetAt(0, 0);
        x.sunkAt(0);
        x.send();
        x.land(i % 3);
        x.fleet(1);
        x.fleets();
        x.chart(0);
        x.byteAt(0);
        x.odds(0, 2, i);
        x.told(0);
        x.said(-1);
        x.count(i % 8);
        try {
            x.boat(0, i % 8);
            x.mean(0, i % 2);
        } catch (NoSuchElementException e) {
            Due.due("boat() or mean() throws", true, false);
        }
    }
}

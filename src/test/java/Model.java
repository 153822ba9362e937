import java.math.BigInteger;
import java.util.ArrayDeque;
import java.util.ArrayList;
import java.util.Comparator;
import java.util.Deque;
import java.util.HashMap;
import java.util.List;
import java.util.Map;
import java.util.NoSuchElementException;
import java.util.stream.IntStream;

/**
 * The class once more, from the document alone and in the slowest words: what is so is copied whole
 * for each thought. RunTest asks both the same calls. Texts are read by TextModel.
 */
final class Model implements TextModel.Facts {
    private static final int[] DX = {1, 0, -1, 0};
    private static final int[] DY = {0, 1, 0, -1};

    /** A LUMP or a BOAT. */
    private static final class Thing {
        String name;
        int x;
        int y;
        int load;
        int spoons;
        int left;
        int depth;
        boolean eaten;

        Thing copy() {
            Thing copy = new Thing();
            copy.name = name;
            copy.x = x;
            copy.y = y;
            copy.load = load;
            copy.spoons = spoons;
            copy.left = left;
            copy.depth = depth;
            copy.eaten = eaten;
            return copy;
        }
    }

    /** SEA and all that is so. */
    private static final class State {
        int wide = 4;
        int high = 4;
        int heat = 10;
        int cools = 1;
        int skin = 3;
        int day = 0;
        int stirs = 0;
        int steps = 0;
        int[][] thick = new int[6][6];
        final List<Thing> lumps = new ArrayList<>();
        final List<Thing> boats = new ArrayList<>();
        Map<String, String> names = new HashMap<>();

        State copy() {
            State copy = new State();
            copy.wide = wide;
            copy.high = high;
            copy.heat = heat;
            copy.cools = cools;
            copy.skin = skin;
            copy.day = day;
            copy.stirs = stirs;
            copy.steps = steps;
            for (int x = 0; x < 6; x++) {
                copy.thick[x] = thick[x].clone();
            }
            lumps.forEach(lump -> copy.lumps.add(lump.copy()));
            boats.forEach(boat -> copy.boats.add(boat.copy()));
            copy.names = names;
            return copy;
        }

        boolean skinned() {
            return heat <= skin;
        }

        boolean cell(int x, int y) {
            return x >= 0 && y >= 0 && x < wide && y < high;
        }

        boolean lumpAt(int x, int y) {
            return lumps.stream().anyMatch(lump -> lump.x == x && lump.y == y);
        }

        boolean floats(Thing boat, int x, int y) {
            return skinned() || lumpAt(x, y) || thick[x][y] >= boat.load;
        }

        boolean afloat(Thing boat) {
            return !boat.eaten && floats(boat, boat.x, boat.y);
        }

        int cost(int x, int y) {
            return skinned() ? 1 : 1 + thick[x][y] / 3;
        }

        int stir(int column, int n, int back) {
            if ((column | 1) != 1 || (back | 1) != 1 || n < 0 || n >= (column == 0 ? high : wide)) {
                return -1;
            }
            if (skinned()) {
                return 1;
            }
            int[][] was = copy().thick;
            for (int x = 0; x < wide; x++) {
                for (int y = 0; y < high; y++) {
                    int[] to = stirred(x, y, column, n, back);
                    thick[to[0]][to[1]] = was[x][y];
                }
            }
            lumps.forEach(lump -> carry(lump, column, n, back));
            boats.stream().filter(boat -> !boat.eaten).forEach(boat -> carry(boat, column, n, back));
            stirs++;
            return 0;
        }

        int[] stirred(int x, int y, int column, int n, int back) {
            int by = back == 0 ? 1 : -1;
            if (column == 0 && y == n) {
                return new int[] {Math.floorMod(x + by, wide), y};
            }
            return column == 1 && x == n ? new int[] {x, Math.floorMod(y + by, high)} : new int[] {x, y};
        }

        private void carry(Thing thing, int column, int n, int back) {
            int[] to = stirred(thing.x, thing.y, column, n, back);
            thing.x = to[0];
            thing.y = to[1];
        }

        int row(int b, int side) {
            if (b < 0 || b >= boats.size() || side < 0 || side > 3) {
                return -1;
            }
            Thing boat = boats.get(b);
            int x = boat.x + DX[side];
            int y = boat.y + DY[side];
            if (boat.eaten) {
                return 1;
            }
            if (!cell(x, y)) {
                return 2;
            }
            if (cost(x, y) > boat.left) {
                return 3;
            }
            boat.left -= cost(x, y);
            boat.x = x;
            boat.y = y;
            steps++;
            return 0;
        }

        int flour(int x, int y, int n) {
            if (!cell(x, y) || n < 1 || n > 9) {
                return -1;
            }
            if (thick[x][y] == 9) {
                return 1;
            }
            thick[x][y] = thick[x][y] + n > 9 ? 9 : thick[x][y] + n;
            return 0;
        }

        int milk(int x, int y, int n) {
            if (!cell(x, y) || n < 1 || n > 9) {
                return -1;
            }
            if (thick[x][y] == 0) {
                return 1;
            }
            thick[x][y] = thick[x][y] < n ? 0 : thick[x][y] - n;
            return 0;
        }

        int stove(int n) {
            if (n < 1 || n > 20) {
                return -1;
            }
            if (heat == 30) {
                return 1;
            }
            heat = heat + n > 30 ? 30 : heat + n;
            return 0;
        }

        /** Whether a DAY went by. */
        boolean passed() {
            if (day == 400) {
                return false;
            }
            for (Thing boat : boats) {
                if (!boat.eaten) {
                    boat.depth = afloat(boat) ? 0 : boat.depth + 1;
                    boat.eaten = boat.depth == 3;
                }
            }
            heat = heat < cools ? 0 : heat - cools;
            day++;
            boats.forEach(boat -> boat.left = boat.spoons);
            return true;
        }

        int passed(int n) {
            int went = 0;
            for (int i = 0; i < n; i++) {
                went += passed() ? 1 : 0;
            }
            return went;
        }

        int drawn(int n, int seed) {
            long[] x = {seed};
            int went = 0;
            for (int i = 0; i < n && day < 400; i++) {
                if (draw(x, 3) == 0) {
                    boolean row = draw(x, 2) == 0;
                    int which = draw(x, row ? high : wide);
                    stir(row ? 0 : 1, which, draw(x, 2));
                }
                for (int b = 0; b < boats.size(); b++) {
                    if (!boats.get(b).eaten) {
                        int side = draw(x, 5);
                        if (side < 4) {
                            row(b, side);
                        }
                    }
                }
                went += passed() ? 1 : 0;
            }
            return went;
        }

        private static int draw(long[] x, int n) {
            x[0] = x[0] * 1103515245L + 12345L & 0xffffffffL;
            return (int) ((x[0] >> 8) % n);
        }

        int bits(java.util.function.Predicate<Thing> of) {
            return IntStream.range(0, boats.size()).filter(b -> of.test(boats.get(b))).map(b -> 1 << b).sum();
        }
    }

    /** A WAY so far. */
    private record Path(int x, int y, int cost, String sides) {
        boolean better(Path other) {
            return other == null || Comparator.comparingInt(Path::cost).thenComparingInt(path -> path.sides.length())
                    .thenComparing(Path::sides).compare(this, other) < 0;
        }
    }

    private State now = new State();
    private TextModel.Judge judge = null;
    private final Deque<State> done = new ArrayDeque<>();
    private final State[] images = new State[2];
    private final TextModel.Judge[] judges = new TextModel.Judge[2];
    private final StringBuilder tape = new StringBuilder();
    private int fault = 0;
    private String way = null;
    private int wayDays = -1;
    private List<int[]> meeting = List.of();
    private List<Integer> sunk = List.of();
    private int send = -1;
    private int fleet = -1;
    private String chart = "";
    private int[] told = null;

    private String taken() {
        String text = tape.toString();
        tape.setLength(0);
        return text;
    }

    public int feed(int a, int b, int c, int d, int e) {
        if (tape.length() > 920) {
            return -1;
        }
        for (int number : new int[] {a, b, c, d, e}) {
            String hex = String.format("%08x", number);
            for (int i = 0; i < 8; i += 2) {
                tape.append((char) Integer.parseInt(hex.substring(i, i + 2), 16));
            }
        }
        return tape.length();
    }

    public boolean end(int n) {
        if (n < 0 || n > tape.length()) {
            return false;
        }
        tape.setLength(n);
        return true;
    }

    public int sea() {
        TextModel text = new TextModel(taken(), 900);
        try {
            text.readSea();
        } catch (TextModel.Fault found) {
            fault = found.kind;
            return -1 - found.place;
        }
        fault = 0;
        now = new State();
        now.names = text.names;
        text.lines.forEach(line -> tell(now, line));
        judge = null;
        done.clear();
        return text.lines.size();
    }

    private static void tell(State into, String[] line) {
        switch (line[0]) {
            case "sea" -> {
                into.wide = Integer.parseInt(line[1]);
                into.high = Integer.parseInt(line[2]);
            }
            case "thick" -> into.thick[Integer.parseInt(line[1])][Integer.parseInt(line[2])] = Integer.parseInt(line[3]);
            case "heat" -> into.heat = Integer.parseInt(line[1]);
            case "cools" -> into.cools = Integer.parseInt(line[1]);
            case "skin" -> into.skin = Integer.parseInt(line[1]);
            default -> {
                Thing thing = new Thing();
                thing.name = line[1];
                thing.x = Integer.parseInt(line[2]);
                thing.y = Integer.parseInt(line[3]);
                if (line[0].equals("boat")) {
                    thing.load = Integer.parseInt(line[4]);
                    thing.spoons = Integer.parseInt(line[5]);
                    thing.left = thing.spoons;
                }
                (line[0].equals("boat") ? into.boats : into.lumps).add(thing);
            }
        }
    }

    public int fault() {
        return fault;
    }

    public int thick(int x, int y) {
        return now.cell(x, y) ? now.thick[x][y] : -1;
    }

    public int lump(int l, int what) {
        if (l < 0 || l >= now.lumps.size()) {
            return -1;
        }
        return what == 0 ? now.lumps.get(l).x : what == 1 ? now.lumps.get(l).y : -1;
    }

    public int boat(int b, int what) {
        if (b < 0 || b >= now.boats.size() || what < 0 || what > 7) {
            throw new NoSuchElementException();
        }
        Thing boat = now.boats.get(b);
        return new int[] {boat.x, boat.y, boat.load, boat.spoons, boat.left, boat.depth, boat.eaten ? 1 : 0,
            now.afloat(boat) ? 1 : 0}[what];
    }

    @Override
    public int ofBoat(int b, int what) {
        return boat(b, what);
    }

    @Override
    public int ofLump(int l, int what) {
        return lump(l, what);
    }

    @Override
    public int lumps() {
        return now.lumps.size();
    }

    public int now(int what) {
        int all = 0;
        for (int x = 0; x < now.wide; x++) {
            for (int y = 0; y < now.high; y++) {
                all += now.thick[x][y];
            }
        }
        int[] facts = {now.day, now.heat, now.skinned() ? 1 : 0, now.bits(boat -> boat.eaten), now.bits(now::afloat), all,
            now.stirs, now.steps};
        return what >= 0 && what < facts.length ? facts[what] : -1;
    }

    // ---- acts: what was so is kept, if they are done ----

    private int acted(State was, boolean did, int answer) {
        if (did) {
            done.push(was);
            while (done.size() > 8) {
                done.removeLast();
            }
        }
        return answer;
    }

    public int stir(int column, int n, int back) {
        State was = now.copy();
        int why = now.stir(column, n, back);
        return acted(was, why == 0, why);
    }

    public int row(int b, int side) {
        State was = now.copy();
        int why = now.row(b, side);
        return acted(was, why == 0, why);
    }

    public int flour(int x, int y, int n) {
        State was = now.copy();
        int why = now.flour(x, y, n);
        return acted(was, why == 0, why);
    }

    public int milk(int x, int y, int n) {
        State was = now.copy();
        int why = now.milk(x, y, n);
        return acted(was, why == 0, why);
    }

    public int stove(int n) {
        State was = now.copy();
        int why = now.stove(n);
        return acted(was, why == 0, why);
    }

    public int days(int n) {
        if (n < 1 || n > 60) {
            return -1;
        }
        State was = now.copy();
        int went = now.passed(n);
        return acted(was, went > 0, went);
    }

    public int drawn(int n, int seed) {
        if (n < 1 || n > 60) {
            return -1;
        }
        State was = now.copy();
        int went = now.drawn(n, seed);
        return acted(was, went > 0, went);
    }

    public int undo() {
        if (done.isEmpty()) {
            return -1;
        }
        now = done.pop();
        return done.size();
    }

    // ---- questions ----

    public int cost(int x, int y) {
        return now.cell(x, y) ? now.cost(x, y) : -1;
    }

    public int skin() {
        State then = now.copy();
        int days = 0;
        while (!then.skinned()) {
            if (!then.passed()) {
                return -1;
            }
            days++;
        }
        return days;
    }

    private boolean pair(int b, int l) {
        return b >= 0 && b < now.boats.size() && l >= 0 && l < now.lumps.size() && !now.boats.get(b).eaten;
    }

    public int way(int b, int l) {
        if (!pair(b, l)) {
            return -1;
        }
        Thing boat = now.boats.get(b);
        Path[][] best = new Path[6][6];
        best[boat.x][boat.y] = new Path(boat.x, boat.y, 0, "");
        for (boolean again = true; again;) {
            again = false;
            for (int from = 0; from < 36; from++) {
                for (int side = 0; side < 4; side++) {
                    Path path = best[from % 6][from / 6] == null ? null : on(best[from % 6][from / 6], side, boat.spoons);
                    if (path != null && path.better(best[path.x][path.y])) {
                        best[path.x][path.y] = path;
                        again = true;
                    }
                }
            }
        }
        Path found = best[now.lumps.get(l).x][now.lumps.get(l).y];
        if (found == null) {
            return -1;
        }
        way = found.sides;
        wayDays = daysOf(boat, way);
        return found.cost;
    }

    private Path on(Path path, int side, int spoons) {
        int x = path.x + DX[side];
        int y = path.y + DY[side];
        if (!now.cell(x, y) || now.cost(x, y) > spoons) {
            return null;
        }
        return new Path(x, y, path.cost + now.cost(x, y), path.sides + side);
    }

    private int daysOf(Thing boat, String sides) {
        int x = boat.x;
        int y = boat.y;
        int days = 0;
        int left = 0;
        for (char side : sides.toCharArray()) {
            x += DX[side - '0'];
            y += DY[side - '0'];
            if (left < now.cost(x, y)) {
                left = boat.spoons;
                days++;
            }
            left -= now.cost(x, y);
        }
        return days;
    }

    public int wayAt(int k) {
        return way == null || k < 0 || k >= way.length() ? -1 : way.charAt(k) - '0';
    }

    public int wayDays() {
        return wayDays;
    }

    public int meet(int b, int l) {
        if (!pair(b, l)) {
            return -1;
        }
        for (int many = 0; many <= 3; many++) {
            List<int[]> stirs = stirsTo(now.boats.get(b).copy(), now.lumps.get(l).copy(), many);
            if (stirs != null) {
                meeting = stirs;
                return many;
            }
        }
        return -1;
    }

    /** The first so many STIRS behind which the two are near; null: none. */
    private List<int[]> stirsTo(Thing boat, Thing lump, int many) {
        if (many == 0) {
            return Math.abs(boat.x - lump.x) + Math.abs(boat.y - lump.y) <= 1 ? new ArrayList<>() : null;
        }
        for (int column = 0; column <= 1; column++) {
            for (int n = 0; n < (column == 0 ? now.high : now.wide); n++) {
                for (int back = 0; back <= 1; back++) {
                    Thing boatThen = boat.copy();
                    Thing lumpThen = lump.copy();
                    now.carry(boatThen, column, n, back);
                    now.carry(lumpThen, column, n, back);
                    List<int[]> rest = stirsTo(boatThen, lumpThen, many - 1);
                    if (rest != null) {
                        rest.add(0, new int[] {column, n, back});
                        return rest;
                    }
                }
            }
        }
        return null;
    }

    public int meetAt(int k, int what) {
        return k < 0 || k >= meeting.size() || what < 0 || what > 2 ? -1 : meeting.get(k)[what];
    }

    public int sunk() {
        String pairs = taken();
        if (pairs.isEmpty() || pairs.length() % 2 == 1 || pairs.length() > 12) {
            return -1;
        }
        for (int i = 0; i < pairs.length(); i += 2) {
            if (pairs.charAt(i) >= now.boats.size() || pairs.charAt(i + 1) > 1) {
                return -1;
            }
        }
        List<Integer> cells = new ArrayList<>();
        for (int y = 0; y < now.high; y++) {
            for (int x = 0; x < now.wide; x++) {
                boolean all = true;
                for (int i = 0; i < pairs.length(); i += 2) {
                    all &= now.floats(now.boats.get(pairs.charAt(i)), x, y) == (pairs.charAt(i + 1) == 1);
                }
                if (all) {
                    cells.add(6 * y + x);
                }
            }
        }
        if (!cells.isEmpty()) {
            sunk = cells;
            send = IntStream.range(0, now.boats.size()).boxed().min(Comparator.comparingLong(this::mostLeft)).orElse(-1);
        }
        return cells.size();
    }

    private long mostLeft(int b) {
        long floating = sunk.stream().filter(cell -> now.floats(now.boats.get(b), cell % 6, cell / 6)).count();
        return Math.max(floating, sunk.size() - floating);
    }

    public int sunkAt(int k) {
        return k < 0 || k >= sunk.size() ? -1 : sunk.get(k);
    }

    public int send() {
        return send;
    }

    public int land(int l) {
        if (l < 0 || l >= now.lumps.size()) {
            return -1;
        }
        boolean[][] dry = new boolean[6][6];
        flood(dry, now.lumps.get(l).x, now.lumps.get(l).y);
        int bits = 0;
        for (int i = 0; i < now.lumps.size(); i++) {
            bits |= dry[now.lumps.get(i).x][now.lumps.get(i).y] ? 1 << i : 0;
        }
        return bits;
    }

    private void flood(boolean[][] dry, int x, int y) {
        if (now.cell(x, y) && now.lumpAt(x, y) && !dry[x][y]) {
            dry[x][y] = true;
            for (int side = 0; side < 4; side++) {
                flood(dry, x + DX[side], y + DY[side]);
            }
        }
    }

    public int mean(int y, int what) {
        if (y < 0 || y >= now.high || what < 0 || what > 1) {
            throw new NoSuchElementException();
        }
        BigInteger all = BigInteger.valueOf(IntStream.range(0, now.wide).map(x -> now.thick[x][y]).sum());
        BigInteger cells = BigInteger.valueOf(now.wide);
        return (what == 0 ? all : cells).divide(all.gcd(cells)).intValue();
    }

    public int fleet(int n) {
        if (n < 1 || n > 54) {
            return -1;
        }
        int best = IntStream.range(0, 64).filter(bits -> loads(bits) >= n).boxed()
                .min(Comparator.comparingInt((Integer bits) -> Integer.bitCount(bits)).thenComparing(bits -> bits)).orElse(-1);
        fleet = best < 0 ? fleet : best;
        return best < 0 ? -1 : Integer.bitCount(best);
    }

    private int loads(int bits) {
        int all = 0;
        for (int b = 0; b < 6; b++) {
            boolean there = b < now.boats.size() && !now.boats.get(b).eaten;
            all += (bits & 1 << b) == 0 ? 0 : there ? now.boats.get(b).load : -1000;
        }
        return all;
    }

    public int fleets() {
        return fleet;
    }

    public int chart(int b) {
        if (b < 0 || b >= now.boats.size()) {
            return -1;
        }
        Thing boat = now.boats.get(b);
        chart = boat.name + (boat.eaten ? " eaten" : " at " + boat.x + " " + boat.y
                + (boat.depth > 0 ? " sinks " + boat.depth : ""));
        return chart.length();
    }

    public int byteAt(int i) {
        return i < 0 || i >= chart.length() ? -1 : chart.charAt(i);
    }

    public int odds(int b, int n, int seed) {
        if (b < 0 || b >= now.boats.size() || n < 1 || n > 30) {
            return -1;
        }
        int eaten = 0;
        for (int i = 0; i < n; i++) {
            State then = now.copy();
            then.drawn(20, seed + i);
            eaten += then.boats.get(b).eaten ? 1 : 0;
        }
        return eaten;
    }

    // ---- BOOK, SENTENCE, images ----

    public int book(int lives) {
        if (lives != 0 && lives != 1) {
            return -1000;
        }
        TextModel text = new TextModel(taken(), 400);
        text.names.putAll(now.names);
        try {
            text.readBook();
        } catch (TextModel.Fault found) {
            fault = found.kind;
            return -2 - found.place;
        }
        fault = 0;
        State then = now.copy();
        int fine = 0;
        int why = 0;
        while (fine < text.lines.size() && why == 0) {
            why = wrong(then, text.lines.get(fine));
            fine += why == 0 ? 1 : 0;
        }
        told = new int[] {why, fine, then.day, then.bits(boat -> boat.eaten)};
        if (lives == 1) {
            acted(now, true, 0);
            now = then;
        }
        return why == 0 ? -1 : fine;
    }

    private static int wrong(State then, String[] line) {
        int[] n = new int[line.length];
        for (int i = 1; i < line.length; i++) {
            n[i] = line[i].matches("[0-9]+") ? Integer.parseInt(line[i]) : -1;
        }
        int why;
        switch (line[0]) {
            case "stir":
                why = then.stir(line[1].equals("row") ? 0 : 1, n[2], line[3].equals("on") ? 0 : 1);
                return why == -1 ? 9 : why;
            case "flour":
                why = then.flour(n[1], n[2], n[3]);
                return why == -1 ? 29 : why == 1 ? 21 : 0;
            case "milk":
                why = then.milk(n[1], n[2], n[3]);
                return why == -1 ? 39 : why == 1 ? 31 : 0;
            case "stove":
                return then.stove(n[1]) == 1 ? 41 : 0;
            case "day":
                if (then.day + n[1] > 400) {
                    return 51;
                }
                then.passed(n[1]);
                return 0;
            default:
                int b = Integer.parseInt(then.names.get(line[0]).substring(1));
                why = then.row(b, List.of("east", "south", "west", "north").indexOf(line[1]));
                return why == 0 ? 0 : 10 + why;
        }
    }

    public int told(int what) {
        return told == null || what < 0 || what > 3 ? -1 : told[what];
    }

    public int sentence() {
        TextModel text = new TextModel(taken(), 200);
        text.names.putAll(now.names);
        try {
            judge = text.readSentence(this);
        } catch (TextModel.Fault found) {
            fault = found.kind;
            return -1 - found.place;
        }
        fault = 0;
        return text.ones;
    }

    public int said(int k) {
        if (judge == null) {
            return -1;
        }
        int[] which = IntStream.range(0, now.boats.size()).filter(judge::holds).toArray();
        return k == -1 ? which.length : k >= 0 && k < which.length ? which[k] : -1;
    }

    public boolean image(int k) {
        if (k != 0 && k != 1) {
            return false;
        }
        images[k] = now.copy();
        judges[k] = judge;
        return true;
    }

    public boolean restore(int k) {
        if (k != 0 && k != 1 || images[k] == null) {
            return false;
        }
        now = images[k].copy();
        judge = judges[k];
        done.clear();
        return true;
    }

    public int count(int what) {
        int[] counts = {now.wide, now.high, now.lumps.size(), now.boats.size(), now.cools, now.skin, tape.length()};
        return what >= 0 && what < counts.length ? counts[what] : -1;
    }

    /** NAMES of the LUMPS ('l') or BOATS ('b') that are told, parted by strokes. */
    String names(String sort) {
        List<String> names = new ArrayList<>();
        (sort.equals("l") ? now.lumps : now.boats).forEach(thing -> names.add(thing.name));
        return names.isEmpty() ? "nobody" : String.join("|", names);
    }
}

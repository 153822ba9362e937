import java.util.NoSuchElementException;

/**
 * A sea of porridge with lumps for islands and boats with loads, told as a text; the document's
 * promises say what each call answers. All rows are made with the object and used again, since a
 * whole run of calls lives in one small room.
 */
public final class PorridgeSea {
    public static final int NONE = -1;

    private static final int MOST_TAPE = 940;
    private static final int MOST_SEA = 900;
    private static final int MOST_BOOK = 400;
    private static final int MOST_SENTENCE = 200;
    private static final int MOST_NUMBER = 999;
    private static final int MOST_OF_A_SORT = 6;
    /** Cells are numbered 6 by Y and X in every SEA, as sunkAt() tells them. */
    private static final int ACROSS = 6;
    private static final int CELLS = 36;
    private static final int SIDES = 4;
    private static final int LAST_DAY = 400;
    private static final int MOST_DAYS = 60;
    private static final int MOST_HEAT = 30;
    private static final int MOST_STOVE = 20;
    private static final int MOST_THICK = 9;
    private static final int MOST_FLEET = 54;
    private static final int MOST_SEEDS = 30;
    private static final int ODDS_DAYS = 20;
    private static final int EATEN_DEPTH = 3;
    private static final int MOST_CHART = 32;
    private static final int IMAGES = 2;
    private static final int OTHER_LIVES = -1000;

    private final Reader reader;
    private int tapeLength;
    private int latestFault;
    private final Sea sea;
    private final Sea spareSea;
    private final SeaText seaText;
    private final Book book;
    private final Sentence sentence;
    private final Sentence spareSentence;
    private final Route route;
    private final Meeting meeting;
    private final Sighting sighting;
    private final Draws draws;
    private final History history;
    private final Image[] images;
    private final byte[] chartBytes;
    private int chartLength;
    private int fleetBits;

    public PorridgeSea() {
        reader = new Reader();
        tapeLength = 0;
        latestFault = 0;
        sea = new Sea();
        spareSea = new Sea();
        seaText = new SeaText();
        book = new Book();
        sentence = new Sentence();
        spareSentence = new Sentence();
        route = new Route();
        meeting = new Meeting();
        sighting = new Sighting();
        draws = new Draws();
        history = new History();
        images = new Image[IMAGES];
        for (int k = 0; k < IMAGES; k++) {
            images[k] = new Image();
        }
        chartBytes = new byte[MOST_CHART];
        chartLength = 0;
        fleetBits = NONE;
    }

    // ---- the tape and the SEA ----

    public int feed(int a, int b, int c, int d, int e) {
        if (tapeLength + 20 > MOST_TAPE) {
            return NONE;
        }
        putBytes(a);
        putBytes(b);
        putBytes(c);
        putBytes(d);
        putBytes(e);
        return tapeLength;
    }

    private void putBytes(int four) {
        for (int shift = 24; shift >= 0 && tapeLength < MOST_TAPE; shift -= 8) {
            reader.tape[tapeLength] = (byte) (four >>> shift);
            tapeLength++;
        }
    }

    public boolean end(int n) {
        if (n < 0 || n > tapeLength) {
            return false;
        }
        tapeLength = n;
        return true;
    }

    public int sea() {
        openTape(MOST_SEA);
        int lines = seaText.read(reader, spareSea);
        latestFault = reader.faultKind;
        if (lines == NONE) {
            return -1 - reader.faultPlace;
        }
        Sea.copy(spareSea, sea);
        sentence.forget();
        history.forget();
        return lines;
    }

    /** The reader keeps the bytes to read; the tape is empty from here on. */
    private void openTape(int mostBytes) {
        reader.open(tapeLength, mostBytes);
        tapeLength = 0;
    }

    public int fault() {
        return latestFault;
    }

    // ---- what is so ----

    public int thick(int x, int y) {
        return sea.isCell(x, y) ? sea.thicknessIn(ACROSS * y + x) : NONE;
    }

    public int lump(int l, int what) {
        if (!sea.isLump(l) || what < 0 || what > 1) {
            return NONE;
        }
        return what == 0 ? sea.lumpCells[l] % ACROSS : sea.lumpCells[l] / ACROSS;
    }

    public int boat(int b, int what) throws NoSuchElementException {
        if (!sea.isBoat(b) || what < 0 || what > 7) {
            throw new NoSuchElementException("no such boat, or nothing such of it");
        }
        return sea.factOfBoat(b, what);
    }

    public int now(int what) {
        switch (what) {
            case 0:
                return sea.today;
            case 1:
                return sea.heat;
            case 2:
                return sea.hasSkin() ? 1 : 0;
            case 3:
                return sea.eatenBits();
            case 4:
                return sea.afloatBits();
            case 5:
                return sea.allThickness();
            case 6:
                return sea.stirs;
            case 7:
                return sea.steps;
            default:
                return NONE;
        }
    }

    public int count(int what) {
        switch (what) {
            case 0:
                return sea.wide;
            case 1:
                return sea.high;
            case 2:
                return sea.lumps;
            case 3:
                return sea.boats;
            case 4:
                return sea.cools;
            case 5:
                return sea.skinHeat;
            case 6:
                return tapeLength;
            default:
                return NONE;
        }
    }

    // ---- acts ----

    public int stir(int column, int n, int back) {
        int why = sea.whyNotStirred(column, n, back);
        if (why == 0) {
            history.keep(sea);
            sea.stirLine(column, n, back);
        }
        return why;
    }

    public int row(int b, int side) {
        int why = sea.whyNotRowed(b, side);
        if (why == 0) {
            history.keep(sea);
            sea.rowBoat(b, side);
        }
        return why;
    }

    public int flour(int x, int y, int n) {
        int why = sea.whyNotFloured(x, y, n);
        if (why == 0) {
            history.keep(sea);
            sea.thicken(x, y, n);
        }
        return why;
    }

    public int milk(int x, int y, int n) {
        int why = sea.whyNotMilked(x, y, n);
        if (why == 0) {
            history.keep(sea);
            sea.thicken(x, y, -n);
        }
        return why;
    }

    public int stove(int n) {
        int why = sea.whyNotWarmed(n);
        if (why == 0) {
            history.keep(sea);
            sea.warm(n);
        }
        return why;
    }

    public int days(int n) {
        if (n < 1 || n > MOST_DAYS) {
            return NONE;
        }
        if (sea.daysLeft() == 0) {
            return 0;
        }
        history.keep(sea);
        return sea.passDays(n);
    }

    public int drawn(int n, int seed) {
        if (n < 1 || n > MOST_DAYS) {
            return NONE;
        }
        if (sea.daysLeft() == 0) {
            return 0;
        }
        history.keep(sea);
        return draws.passDays(sea, n, seed);
    }

    public int undo() {
        return history.takeBack(sea);
    }

    // ---- questions ----

    public int cost(int x, int y) {
        return sea.isCell(x, y) ? sea.stepCost(ACROSS * y + x) : NONE;
    }

    public int skin() {
        if (sea.hasSkin()) {
            return 0;
        }
        if (sea.cools < 1) {
            return NONE;
        }
        int needed = (sea.heat - sea.skinHeat + sea.cools - 1) / sea.cools;
        return needed <= sea.daysLeft() ? needed : NONE;
    }

    public int way(int b, int l) {
        return route.find(sea, b, l);
    }

    public int wayAt(int k) {
        return route.sideAt(k);
    }

    public int wayDays() {
        return route.daysTaken;
    }

    public int meet(int b, int l) {
        return meeting.find(sea, b, l);
    }

    public int meetAt(int k, int what) {
        return meeting.stirAt(k, what);
    }

    public int sunk() {
        int pairBytes = tapeLength;
        tapeLength = 0;
        return sighting.look(sea, reader.tape, pairBytes);
    }

    public int sunkAt(int k) {
        return sighting.cellAt(k);
    }

    public int send() {
        return sighting.bestBoat;
    }

    public int land(int l) {
        return sea.isLump(l) ? sea.landBits(l) : NONE;
    }

    public int mean(int y, int what) throws NoSuchElementException {
        if (y < 0 || y >= sea.high || what < 0 || what > 1) {
            throw new NoSuchElementException("no such row, or no such number");
        }
        int sum = 0;
        for (int x = 0; x < sea.wide; x++) {
            sum += sea.thicknessIn(ACROSS * y + x);
        }
        int common = commonDivisor(sum, sea.wide);
        return (what == 0 ? sum : sea.wide) / common;
    }

    private static int commonDivisor(int above, int below) {
        for (int d = below; d > 1; d--) {
            if (above % d == 0 && below % d == 0) {
                return d;
            }
        }
        return 1;
    }

    public int fleet(int n) {
        if (n < 1 || n > MOST_FLEET) {
            return NONE;
        }
        int eaten = sea.eatenBits();
        int best = 0;
        for (int bits = 1; bits < 1 << sea.boats; bits++) {
            boolean fewer = best == 0 || Integer.bitCount(bits) < Integer.bitCount(best);
            if (fewer && (bits & eaten) == 0 && sea.loadOf(bits) >= n) {
                best = bits;
            }
        }
        if (best == 0) {
            return NONE;
        }
        fleetBits = best;
        return Integer.bitCount(best);
    }

    public int fleets() {
        return fleetBits;
    }

    public int odds(int b, int n, int seed) {
        if (!sea.isBoat(b) || n < 1 || n > MOST_SEEDS) {
            return NONE;
        }
        int eaten = 0;
        for (int i = 0; i < n; i++) {
            Sea.copy(sea, spareSea);
            draws.passDays(spareSea, ODDS_DAYS, seed + i);
            eaten += spareSea.isEaten(b) ? 1 : 0;
        }
        return eaten;
    }

    // ---- the CHART ----

    public int chart(int b) {
        if (!sea.isBoat(b)) {
            return NONE;
        }
        chartLength = 0;
        writeName(sea.boatNames[b]);
        if (sea.isEaten(b)) {
            write(" eaten");
            return chartLength;
        }
        write(" at ");
        writeDigit(sea.boatCells[b] % ACROSS);
        write(" ");
        writeDigit(sea.boatCells[b] / ACROSS);
        if (sea.depths[b] > 0) {
            write(" sinks ");
            writeDigit(sea.depths[b]);
        }
        return chartLength;
    }

    private void writeName(long name) {
        for (int shift = 48; shift >= 0; shift -= 8) {
            int letter = (int) (name >>> shift) & 255;
            if (letter != 0) {
                writeByte(letter);
            }
        }
    }

    private void write(String text) {
        for (int i = 0; i < text.length(); i++) {
            writeByte(text.charAt(i));
        }
    }

    private void writeDigit(int digit) {
        writeByte('0' + digit);
    }

    private void writeByte(int value) {
        if (chartLength < MOST_CHART) {
            chartBytes[chartLength] = (byte) value;
            chartLength++;
        }
    }

    public int byteAt(int i) {
        return i >= 0 && i < chartLength ? chartBytes[i] & 255 : NONE;
    }

    // ---- the BOOK and the SENTENCE ----

    public int book(int lives) {
        if (lives != 0 && lives != 1) {
            return OTHER_LIVES;
        }
        openTape(MOST_BOOK);
        boolean fine = book.read(reader, sea);
        latestFault = reader.faultKind;
        if (!fine) {
            return -2 - reader.faultPlace;
        }
        Sea.copy(sea, spareSea);
        int wrongLine = book.live(spareSea);
        if (lives == 1) {
            history.keep(sea);
            Sea.copy(spareSea, sea);
        }
        return wrongLine;
    }

    public int told(int what) {
        return book.factThen(what);
    }

    public int sentence() {
        openTape(MOST_SENTENCE);
        boolean fine = spareSentence.read(reader, sea);
        latestFault = reader.faultKind;
        if (!fine) {
            return -1 - reader.faultPlace;
        }
        Sentence.copy(spareSentence, sentence);
        return sentence.ones;
    }

    public int said(int k) {
        if (!sentence.isThere()) {
            return NONE;
        }
        int found = 0;
        for (int b = 0; b < sea.boats; b++) {
            if (sentence.holds(sea, b)) {
                if (found == k) {
                    return b;
                }
                found++;
            }
        }
        return k == NONE ? found : NONE;
    }

    // ---- images ----

    public boolean image(int k) {
        Image place = placeOf(k);
        if (place == null) {
            return false;
        }
        Sea.copy(sea, place.sea);
        Sentence.copy(sentence, place.sentence);
        place.kept = true;
        return true;
    }

    public boolean restore(int k) {
        Image place = placeOf(k);
        if (place == null || !place.kept) {
            return false;
        }
        Sea.copy(place.sea, sea);
        Sentence.copy(place.sentence, sentence);
        history.forget();
        return true;
    }

    private Image placeOf(int k) {
        return k >= 0 && k < IMAGES ? images[k] : null;
    }

    /** The SEA and all that is so in it. A BOAT is EATEN when its DEPTH is 3. */
    private static final class Sea {
        int wide;
        int high;
        int heat;
        int cools;
        int skinHeat;
        int today;
        int stirs;
        int steps;
        int lumps;
        int boats;
        final int[] thickness;
        final long[] lumpNames;
        final int[] lumpCells;
        final long[] boatNames;
        final int[] boatCells;
        final int[] loads;
        final int[] spoons;
        final int[] spoonsLeft;
        final int[] depths;

        Sea() {
            thickness = new int[CELLS];
            lumpNames = new long[MOST_OF_A_SORT];
            lumpCells = new int[MOST_OF_A_SORT];
            boatNames = new long[MOST_OF_A_SORT];
            boatCells = new int[MOST_OF_A_SORT];
            loads = new int[MOST_OF_A_SORT];
            spoons = new int[MOST_OF_A_SORT];
            spoonsLeft = new int[MOST_OF_A_SORT];
            depths = new int[MOST_OF_A_SORT];
            empty();
        }

        /** As it is if nothing is told. */
        void empty() {
            wide = 4;
            high = 4;
            heat = 10;
            cools = 1;
            skinHeat = 3;
            today = 0;
            stirs = 0;
            steps = 0;
            lumps = 0;
            boats = 0;
            for (int cell = 0; cell < CELLS; cell++) {
                thickness[cell] = 0;
            }
        }

        static void copy(Sea from, Sea to) {
            if (from == null || to == null) {
                return;
            }
            to.wide = from.wide;
            to.high = from.high;
            to.heat = from.heat;
            to.cools = from.cools;
            to.skinHeat = from.skinHeat;
            to.today = from.today;
            to.stirs = from.stirs;
            to.steps = from.steps;
            to.lumps = from.lumps;
            to.boats = from.boats;
            System.arraycopy(from.thickness, 0, to.thickness, 0, CELLS);
            System.arraycopy(from.lumpNames, 0, to.lumpNames, 0, MOST_OF_A_SORT);
            System.arraycopy(from.lumpCells, 0, to.lumpCells, 0, MOST_OF_A_SORT);
            System.arraycopy(from.boatNames, 0, to.boatNames, 0, MOST_OF_A_SORT);
            System.arraycopy(from.boatCells, 0, to.boatCells, 0, MOST_OF_A_SORT);
            System.arraycopy(from.loads, 0, to.loads, 0, MOST_OF_A_SORT);
            System.arraycopy(from.spoons, 0, to.spoons, 0, MOST_OF_A_SORT);
            System.arraycopy(from.spoonsLeft, 0, to.spoonsLeft, 0, MOST_OF_A_SORT);
            System.arraycopy(from.depths, 0, to.depths, 0, MOST_OF_A_SORT);
        }

        boolean isCell(int x, int y) {
            return x >= 0 && x < wide && y >= 0 && y < high;
        }

        boolean isLump(int l) {
            return l >= 0 && l < lumps;
        }

        boolean isBoat(int b) {
            return b >= 0 && b < boats;
        }

        boolean isLine(int column, int n) {
            return n >= 0 && n < (column == 1 ? wide : high);
        }

        boolean isEaten(int b) {
            return isBoat(b) && depths[b] >= EATEN_DEPTH;
        }

        int lumpNamed(long name) {
            for (int l = 0; l < lumps; l++) {
                if (lumpNames[l] == name) {
                    return l;
                }
            }
            return NONE;
        }

        int boatNamed(long name) {
            for (int b = 0; b < boats; b++) {
                if (boatNames[b] == name) {
                    return b;
                }
            }
            return NONE;
        }

        void addLump(long name, int cell) {
            if (lumps < MOST_OF_A_SORT) {
                lumpNames[lumps] = name;
                lumpCells[lumps] = cell;
                lumps++;
            }
        }

        void addBoat(long name, int cell, int load, int allSpoons) {
            if (boats < MOST_OF_A_SORT) {
                boatNames[boats] = name;
                boatCells[boats] = cell;
                loads[boats] = load;
                spoons[boats] = allSpoons;
                spoonsLeft[boats] = allSpoons;
                depths[boats] = 0;
                boats++;
            }
        }

        boolean hasSkin() {
            return heat <= skinHeat;
        }

        int thicknessIn(int cell) {
            return cell >= 0 && cell < CELLS ? thickness[cell] : 0;
        }

        boolean hasLumpIn(int cell) {
            for (int l = 0; l < lumps; l++) {
                if (lumpCells[l] == cell) {
                    return true;
                }
            }
            return false;
        }

        /** Whether a BOAT would be AFLOAT in a cell, EATEN or not. */
        boolean wouldFloat(int b, int cell) {
            return isBoat(b) && (hasSkin() || hasLumpIn(cell) || thicknessIn(cell) >= loads[b]);
        }

        boolean isAfloat(int b) {
            return isBoat(b) && !isEaten(b) && wouldFloat(b, boatCells[b]);
        }

        int stepCost(int cell) {
            return hasSkin() ? 1 : 1 + thicknessIn(cell) / 3;
        }

        /** The cell next to one on a SIDE (east, south, west, north); NONE: over the rim. */
        int nextCell(int cell, int side) {
            int x = cell % ACROSS + (side == 0 ? 1 : side == 2 ? -1 : 0);
            int y = cell / ACROSS + (side == 1 ? 1 : side == 3 ? -1 : 0);
            return isCell(x, y) ? ACROSS * y + x : NONE;
        }

        /** Whether two cells are one, or next to one another. */
        static boolean areNear(int cell, int other) {
            int dx = Math.abs(cell % ACROSS - other % ACROSS);
            int dy = Math.abs(cell / ACROSS - other / ACROSS);
            return dx + dy <= 1;
        }

        /** Where a STIR brings what is in a cell. */
        int stirredTo(int cell, int column, int n, int back) {
            int x = cell % ACROSS;
            int y = cell / ACROSS;
            int move = back == 1 ? -1 : 1;
            if (column == 1) {
                return x == n ? ACROSS * overRim(y + move, high) + x : cell;
            }
            return y == n ? ACROSS * y + overRim(x + move, wide) : cell;
        }

        private static int overRim(int i, int length) {
            if (i < 0) {
                return length - 1;
            }
            return i >= length ? 0 : i;
        }

        int whyNotStirred(int column, int n, int back) {
            if (column < 0 || column > 1 || back < 0 || back > 1 || !isLine(column, n)) {
                return NONE;
            }
            return hasSkin() ? 1 : 0;
        }

        void stirLine(int column, int n, int back) {
            if (!isLine(column, n)) {
                return;
            }
            stirThickness(column, n, back);
            for (int l = 0; l < lumps; l++) {
                lumpCells[l] = stirredTo(lumpCells[l], column, n, back);
            }
            for (int b = 0; b < boats; b++) {
                if (!isEaten(b)) {
                    boatCells[b] = stirredTo(boatCells[b], column, n, back);
                }
            }
            stirs++;
        }

        /** Neighbours change places one behind the other, against the way the line goes. */
        private void stirThickness(int column, int n, int back) {
            int length = column == 1 ? high : wide;
            int first = column == 1 ? n : ACROSS * n;
            int stride = column == 1 ? ACROSS : 1;
            for (int i = 1; i < length; i++) {
                int later = first + stride * (back == 1 ? i : length - i);
                int earlier = later - stride;
                if (earlier >= 0 && later < CELLS) {
                    int held = thickness[later];
                    thickness[later] = thickness[earlier];
                    thickness[earlier] = held;
                }
            }
        }

        int whyNotRowed(int b, int side) {
            if (!isBoat(b) || side < 0 || side >= SIDES) {
                return NONE;
            }
            if (isEaten(b)) {
                return 1;
            }
            int to = nextCell(boatCells[b], side);
            if (to == NONE) {
                return 2;
            }
            return stepCost(to) > spoonsLeft[b] ? 3 : 0;
        }

        void rowBoat(int b, int side) {
            if (!isBoat(b)) {
                return;
            }
            int to = nextCell(boatCells[b], side);
            if (to == NONE) {
                return;
            }
            spoonsLeft[b] -= stepCost(to);
            boatCells[b] = to;
            steps++;
        }

        int whyNotFloured(int x, int y, int n) {
            if (!isCell(x, y) || n < 1 || n > MOST_THICK) {
                return NONE;
            }
            return thicknessIn(ACROSS * y + x) == MOST_THICK ? 1 : 0;
        }

        int whyNotMilked(int x, int y, int n) {
            if (!isCell(x, y) || n < 1 || n > MOST_THICK) {
                return NONE;
            }
            return thicknessIn(ACROSS * y + x) == 0 ? 1 : 0;
        }

        /** By more or by less (n below 0), within what a cell can be. */
        void thicken(int x, int y, int n) {
            if (isCell(x, y)) {
                int cell = ACROSS * y + x;
                thickness[cell] = Math.max(0, Math.min(MOST_THICK, thickness[cell] + n));
            }
        }

        int whyNotWarmed(int n) {
            if (n < 1 || n > MOST_STOVE) {
                return NONE;
            }
            return heat == MOST_HEAT ? 1 : 0;
        }

        void warm(int n) {
            heat = Math.min(MOST_HEAT, heat + n);
        }

        int daysLeft() {
            return LAST_DAY - today;
        }

        int passDays(int n) {
            int going = Math.min(n, daysLeft());
            for (int i = 0; i < going; i++) {
                passDay();
            }
            return going;
        }

        void passDay() {
            for (int b = 0; b < boats; b++) {
                if (!isEaten(b)) {
                    depths[b] = isAfloat(b) ? 0 : depths[b] + 1;
                }
                spoonsLeft[b] = spoons[b];
            }
            heat = Math.max(0, heat - cools);
            today++;
        }

        int factOfBoat(int b, int what) {
            if (!isBoat(b)) {
                return NONE;
            }
            switch (what) {
                case 0:
                    return boatCells[b] % ACROSS;
                case 1:
                    return boatCells[b] / ACROSS;
                case 2:
                    return loads[b];
                case 3:
                    return spoons[b];
                case 4:
                    return spoonsLeft[b];
                case 5:
                    return depths[b];
                case 6:
                    return isEaten(b) ? 1 : 0;
                default:
                    return isAfloat(b) ? 1 : 0;
            }
        }

        int eatenBits() {
            int bits = 0;
            for (int b = 0; b < boats; b++) {
                bits |= isEaten(b) ? 1 << b : 0;
            }
            return bits;
        }

        int afloatBits() {
            int bits = 0;
            for (int b = 0; b < boats; b++) {
                bits |= isAfloat(b) ? 1 << b : 0;
            }
            return bits;
        }

        int allThickness() {
            int sum = 0;
            for (int cell = 0; cell < CELLS; cell++) {
                sum += thickness[cell];
            }
            return sum;
        }

        int loadOf(int boatBits) {
            int sum = 0;
            for (int b = 0; b < boats; b++) {
                sum += (boatBits >> b & 1) == 1 ? loads[b] : 0;
            }
            return sum;
        }

        int landBits(int l) {
            int bits = 1 << l;
            for (int round = 1; round < lumps; round++) {
                bits |= shoreBits(bits);
            }
            return bits;
        }

        /** LUMPS in cells next to those of the LUMPS told, and these. */
        private int shoreBits(int bits) {
            int near = 0;
            for (int i = 0; i < lumps; i++) {
                for (int j = 0; j < lumps && (bits >> i & 1) == 1; j++) {
                    near |= areNear(lumpCells[i], lumpCells[j]) ? 1 << j : 0;
                }
            }
            return near;
        }
    }

    /** TOKENS of the tape, one at a time, and the first FAULT that was found among them. */
    private static final class Reader {
        static final int END = 0;
        static final int NO_TOKEN = 1;
        static final int A_WORD = 2;
        static final int A_NUMBER = 3;

        // Where words stand in the texts below; what is in none of them can be a NAME.
        static final int SEA = 0;
        static final int THICK = 1;
        static final int LUMP = 2;
        static final int BOAT = 3;
        static final int HEAT = 4;
        static final int COOLS = 5;
        static final int SKIN = 6;
        static final int STIR = 7;
        static final int ROW = 8;
        static final int COLUMN = 9;
        static final int ON = 10;
        static final int BACK = 11;
        static final int EAST = 12;
        static final int NORTH = 15;
        static final int FLOUR = 16;
        static final int MILK = 17;
        static final int STOVE = 18;
        static final int DAY = 19;
        static final int OR = 20;
        static final int AND = 21;
        static final int NOT = 22;
        static final int EATEN = 23;
        static final int AFLOAT = 24;
        static final int LANDED = 25;
        static final int BY = 26;
        static final int LOAD = 27;
        static final int DEPTH = 28;
        static final int LEFT = 29;
        static final int NUMBER = 30;
        static final int NAME = 31;

        /** Seven signs a word, so that a word's place tells its number. */
        private static final String SEA_WORDS =
                "sea    thick  lump   boat   heat   cools  skin   ";
        private static final String BOOK_WORDS =
                "stir   row    column on     back   east   south  west   north  flour  milk   stove  day    ";
        private static final String SENTENCE_WORDS =
                "or     and    not    eaten  afloat landed by     load   depth  left   number ";
        private static final int WORD_LENGTH = 7;
        private static final int NUMBER_LENGTH = 3;

        final byte[] tape;
        private int length;
        private int mostBytes;
        private int place;
        /** Of the TOKEN that is next: END, NO_TOKEN, A_WORD, A_NUMBER, or the sign that it is. */
        int kind;
        int begin;
        private int word;
        private int number;
        /** A WORD's letters, eight bits each. */
        long letters;
        int faultKind;
        int faultPlace;

        Reader() {
            tape = new byte[MOST_TAPE];
        }

        void open(int byteCount, int most) {
            length = Math.min(byteCount, MOST_TAPE);
            mostBytes = most;
            place = 0;
            faultKind = 0;
            faultPlace = 0;
            advance();
        }

        void advance() {
            while (place < length && (tape[place] == ' ' || tape[place] == '\n')) {
                place++;
            }
            begin = place;
            word = NONE;
            if (length > mostBytes && place >= mostBytes) {
                kind = NO_TOKEN;
                begin = mostBytes;
            } else if (place >= length) {
                kind = END;
            } else if (isLetter(tape[place]) || isDigit(tape[place])) {
                readRun();
            } else {
                readSign();
            }
            if (kind == A_WORD) {
                word = wordIn(SEA_WORDS, SEA);
                word = word == NAME ? wordIn(BOOK_WORDS, STIR) : word;
                word = word == NAME ? wordIn(SENTENCE_WORDS, OR) : word;
            }
        }

        private static boolean isLetter(int value) {
            return value >= 'a' && value <= 'z';
        }

        private static boolean isDigit(int value) {
            return value >= '0' && value <= '9';
        }

        private void readSign() {
            int sign = tape[place];
            boolean known = sign == ';' || sign == '<' || sign == '=' || sign == '>' || sign == '(' || sign == ')';
            kind = known ? sign : NO_TOKEN;
            place++;
        }

        private void readRun() {
            int digits = 0;
            letters = 0;
            number = 0;
            while (place < length && (isLetter(tape[place]) || isDigit(tape[place]))) {
                if (isDigit(tape[place])) {
                    digits++;
                    number = 10 * number + tape[place] - '0';
                } else {
                    letters = letters << 8 | tape[place];
                }
                place++;
            }
            int signs = place - begin;
            if (digits == 0 && signs <= WORD_LENGTH) {
                kind = A_WORD;
            } else {
                kind = digits == signs && signs <= NUMBER_LENGTH ? A_NUMBER : NO_TOKEN;
            }
        }

        /** Which of the words the TOKEN is, counted from the first one's number; NAME: none. */
        private int wordIn(String words, int first) {
            int count = words.length() / WORD_LENGTH;
            int signs = place - begin;
            for (int w = 0; w < count; w++) {
                int same = 0;
                while (same < WORD_LENGTH
                        && words.charAt(WORD_LENGTH * w + same) == (same < signs ? tape[begin + same] : ' ')) {
                    same++;
                }
                if (same == WORD_LENGTH) {
                    return first + w;
                }
            }
            return NAME;
        }

        /** The WORD that is next, as a number; NONE: it is none. */
        int nextWord() {
            return word;
        }

        boolean refuse(int why) {
            return refuseAt(why, begin);
        }

        boolean refuseAt(int why, int where) {
            faultKind = why;
            faultPlace = where;
            return false;
        }

        /** The next TOKEN's value, if it is a NUMBER as told; NONE: it is a FAULT. */
        int takeNumber(int least, int most) {
            if (kind != A_NUMBER) {
                refuse(1);
                return NONE;
            }
            if (number < least || number > most) {
                refuse(2);
                return NONE;
            }
            int taken = number;
            advance();
            return taken;
        }

        /** How far behind the first of some words the next one is; NONE: it is a FAULT. */
        int takeWord(int first, int last) {
            if (word < first || word > last) {
                refuse(1);
                return NONE;
            }
            int taken = word - first;
            advance();
            return taken;
        }

        boolean takeSign(int sign) {
            if (kind != sign) {
                return refuse(1);
            }
            advance();
            return true;
        }
    }

    /** Reads a SEA. */
    private static final class SeaText {
        private static final int WITH_CELLS = 1 << Reader.THICK | 1 << Reader.LUMP | 1 << Reader.BOAT;

        /** First words of LINES so far, as bits. */
        private int toldWords;

        /** How many LINES; NONE: the reader has a FAULT. */
        int read(Reader in, Sea into) {
            into.empty();
            toldWords = 0;
            int lines = 0;
            while (lines < MOST_SEA && in.kind != Reader.END) {
                int word = in.nextWord();
                boolean fine;
                switch (word) {
                    case Reader.SEA:
                        fine = readSize(in, into);
                        break;
                    case Reader.THICK:
                        fine = readThick(in, into);
                        break;
                    case Reader.LUMP:
                        fine = readLump(in, into);
                        break;
                    case Reader.BOAT:
                        fine = readBoat(in, into);
                        break;
                    case Reader.HEAT:
                    case Reader.COOLS:
                    case Reader.SKIN:
                        fine = readSetting(in, into, word);
                        break;
                    default:
                        fine = in.refuse(1);
                        break;
                }
                if (!fine || !in.takeSign(';')) {
                    return NONE;
                }
                toldWords |= 1 << word;
                lines++;
            }
            return lines;
        }

        private boolean readSize(Reader in, Sea into) {
            if ((toldWords & (WITH_CELLS | 1 << Reader.SEA)) != 0) {
                return in.refuse(3);
            }
            in.advance();
            int wide = in.takeNumber(2, ACROSS);
            int high = wide == NONE ? NONE : in.takeNumber(2, ACROSS);
            if (high == NONE) {
                return false;
            }
            into.wide = wide;
            into.high = high;
            return true;
        }

        private boolean readSetting(Reader in, Sea into, int word) {
            if ((toldWords & 1 << word) != 0) {
                return in.refuse(3);
            }
            in.advance();
            int n = in.takeNumber(0, word == Reader.COOLS ? 5 : MOST_HEAT);
            if (n == NONE) {
                return false;
            }
            if (word == Reader.HEAT) {
                into.heat = n;
            } else if (word == Reader.COOLS) {
                into.cools = n;
            } else {
                into.skinHeat = n;
            }
            return true;
        }

        private boolean readThick(Reader in, Sea into) {
            in.advance();
            int cell = readCell(in, into, Reader.THICK);
            int n = cell == NONE ? NONE : in.takeNumber(1, MOST_THICK);
            if (n == NONE) {
                return false;
            }
            into.thickness[cell] = n;
            return true;
        }

        private boolean readLump(Reader in, Sea into) {
            if (into.lumps >= MOST_OF_A_SORT) {
                return in.refuse(4);
            }
            in.advance();
            long name = in.letters;
            int cell = takeNewName(in, into) ? readCell(in, into, Reader.LUMP) : NONE;
            if (cell == NONE) {
                return false;
            }
            into.addLump(name, cell);
            return true;
        }

        private boolean readBoat(Reader in, Sea into) {
            if (into.boats >= MOST_OF_A_SORT) {
                return in.refuse(4);
            }
            in.advance();
            long name = in.letters;
            int cell = takeNewName(in, into) ? readCell(in, into, Reader.BOAT) : NONE;
            int load = cell == NONE ? NONE : in.takeNumber(0, 9);
            int spoons = load == NONE ? NONE : in.takeNumber(1, 9);
            if (spoons == NONE) {
                return false;
            }
            into.addBoat(name, cell, load, spoons);
            return true;
        }

        private boolean takeNewName(Reader in, Sea into) {
            if (in.nextWord() != Reader.NAME) {
                return in.refuse(1);
            }
            if (into.lumpNamed(in.letters) != NONE || into.boatNamed(in.letters) != NONE) {
                return in.refuse(3);
            }
            in.advance();
            return true;
        }

        /** A cell that the LINE of this word may tell; NONE: the reader has a FAULT. */
        private int readCell(Reader in, Sea into, int word) {
            int x = in.takeNumber(0, into.wide - 1);
            int placeOfY = in.begin;
            int y = x == NONE ? NONE : in.takeNumber(0, into.high - 1);
            if (y == NONE) {
                return NONE;
            }
            int cell = ACROSS * y + x;
            boolean again = word == Reader.THICK && into.thicknessIn(cell) > 0;
            boolean taken = word == Reader.LUMP && into.hasLumpIn(cell);
            if (again || taken) {
                in.refuseAt(3, placeOfY);
                return NONE;
            }
            return cell;
        }
    }

    /** The LINES of a BOOK, and what came of the latest that had no FAULT. */
    private static final class Book {
        private static final int MOST_LINES = 40;
        private static final int LINE_LENGTH = 4;
        private static final int STIRS = 0;
        private static final int ROWS = 1;
        private static final int FLOURS = 2;
        private static final int MILKS = 3;
        private static final int WARMS = 4;
        private static final int PASSES = 5;

        /** Four numbers a LINE: its sort and what is told behind its first WORD. */
        private final int[] lines;
        private int lineCount;
        private boolean lived;
        private int whyWrong;
        private int fineLines;
        private int dayThen;
        private int eatenThen;

        Book() {
            lines = new int[MOST_LINES * LINE_LENGTH];
            lineCount = 0;
            lived = false;
        }

        boolean read(Reader in, Sea sea) {
            lineCount = 0;
            while (lineCount <= MOST_LINES && in.kind != Reader.END) {
                int sort = sortOf(in.nextWord());
                int boat = sort == ROWS ? sea.boatNamed(in.letters) : 0;
                if (sort == NONE) {
                    return in.refuse(1);
                }
                if (boat == NONE) {
                    return in.refuse(3);
                }
                if (lineCount >= MOST_LINES) {
                    return in.refuse(4);
                }
                in.advance();
                if (!readRest(in, sort, boat) || !in.takeSign(';')) {
                    return false;
                }
            }
            return true;
        }

        private static int sortOf(int word) {
            switch (word) {
                case Reader.STIR:
                    return STIRS;
                case Reader.NAME:
                    return ROWS;
                case Reader.FLOUR:
                    return FLOURS;
                case Reader.MILK:
                    return MILKS;
                case Reader.STOVE:
                    return WARMS;
                case Reader.DAY:
                    return PASSES;
                default:
                    return NONE;
            }
        }

        private boolean readRest(Reader in, int sort, int boat) {
            switch (sort) {
                case STIRS:
                    int column = in.takeWord(Reader.ROW, Reader.COLUMN);
                    int n = column == NONE ? NONE : in.takeNumber(0, ACROSS - 1);
                    int back = n == NONE ? NONE : in.takeWord(Reader.ON, Reader.BACK);
                    return back != NONE && put(sort, column, n, back);
                case ROWS:
                    int side = in.takeWord(Reader.EAST, Reader.NORTH);
                    return side != NONE && put(sort, boat, side, 0);
                case FLOURS:
                case MILKS:
                    int x = in.takeNumber(0, ACROSS - 1);
                    int y = x == NONE ? NONE : in.takeNumber(0, ACROSS - 1);
                    int by = y == NONE ? NONE : in.takeNumber(1, MOST_THICK);
                    return by != NONE && put(sort, x, y, by);
                default:
                    int much = in.takeNumber(1, sort == WARMS ? MOST_STOVE : MOST_DAYS);
                    return much != NONE && put(sort, much, 0, 0);
            }
        }

        private boolean put(int sort, int a, int b, int c) {
            if (lineCount >= MOST_LINES) {
                return false;
            }
            int at = LINE_LENGTH * lineCount;
            lines[at] = sort;
            lines[at + 1] = a;
            lines[at + 2] = b;
            lines[at + 3] = c;
            lineCount++;
            return true;
        }

        /** The LINE that is WRONG in that SEA, in which those ahead of it are lived; NONE: none. */
        int live(Sea in) {
            int why = 0;
            int line = 0;
            while (line < lineCount && why == 0) {
                why = liveLine(in, line);
                line += why == 0 ? 1 : 0;
            }
            lived = true;
            whyWrong = why;
            fineLines = line;
            dayThen = in.today;
            eatenThen = in.eatenBits();
            return why == 0 ? NONE : line;
        }

        /** 0, or why it is WRONG: 10 by its sort and why the act can't be, 9 for no such ones. */
        private int liveLine(Sea in, int line) {
            if (line < 0 || line >= MOST_LINES) {
                return NONE;
            }
            int at = LINE_LENGTH * line;
            int sort = lines[at];
            int a = lines[at + 1];
            int b = lines[at + 2];
            int c = lines[at + 3];
            int why = whyNot(in, sort, a, b, c);
            if (why != 0) {
                return 10 * sort + (why == NONE ? 9 : why);
            }
            switch (sort) {
                case STIRS:
                    in.stirLine(a, b, c);
                    break;
                case ROWS:
                    in.rowBoat(a, b);
                    break;
                case FLOURS:
                    in.thicken(a, b, c);
                    break;
                case MILKS:
                    in.thicken(a, b, -c);
                    break;
                case WARMS:
                    in.warm(a);
                    break;
                default:
                    in.passDays(a);
                    break;
            }
            return 0;
        }

        private static int whyNot(Sea in, int sort, int a, int b, int c) {
            switch (sort) {
                case STIRS:
                    return in.whyNotStirred(a, b, c);
                case ROWS:
                    return in.whyNotRowed(a, b);
                case FLOURS:
                    return in.whyNotFloured(a, b, c);
                case MILKS:
                    return in.whyNotMilked(a, b, c);
                case WARMS:
                    return in.whyNotWarmed(a);
                default:
                    return in.daysLeft() < a ? 1 : 0;
            }
        }

        int factThen(int what) {
            if (!lived) {
                return NONE;
            }
            switch (what) {
                case 0:
                    return whyWrong;
                case 1:
                    return fineLines;
                case 2:
                    return dayThen;
                case 3:
                    return eatenThen;
                default:
                    return NONE;
            }
        }
    }

    /** A SENTENCE as a row of codes, each behind what it is said of (a, b, and). */
    private static final class Sentence {
        private static final int MOST_ONES = 20;
        private static final int MOST_WITHIN = 8;
        /** 20 ONES and the words between them. */
        private static final int MOST_CODES = 40;
        // A code: the word's number, a SIGN, and a NUMBER or a LUMP.
        private static final int WORD_MASK = 31;
        private static final int SIGN_SHIFT = 5;
        private static final int SIGN_MASK = 127;
        private static final int NUMBER_SHIFT = 12;

        private final int[] codes;
        private int codeCount;
        int ones;

        Sentence() {
            codes = new int[MOST_CODES];
            codeCount = 0;
            ones = 0;
        }

        static void copy(Sentence from, Sentence to) {
            if (from == null || to == null) {
                return;
            }
            System.arraycopy(from.codes, 0, to.codes, 0, MOST_CODES);
            to.codeCount = from.codeCount;
            to.ones = from.ones;
        }

        void forget() {
            codeCount = 0;
            ones = 0;
        }

        boolean isThere() {
            return codeCount > 0;
        }

        boolean read(Reader in, Sea sea) {
            forget();
            if (!readCond(in, sea, 1)) {
                return false;
            }
            return in.kind == Reader.END || in.refuse(1);
        }

        private boolean readCond(Reader in, Sea sea, int within) {
            boolean fine = readAll(in, sea, within);
            for (int i = 0; i < MOST_ONES && fine && in.nextWord() == Reader.OR; i++) {
                in.advance();
                fine = readAll(in, sea, within) && put(Reader.OR);
            }
            return fine;
        }

        private boolean readAll(Reader in, Sea sea, int within) {
            boolean fine = readOne(in, sea, within);
            for (int i = 0; i < MOST_ONES && fine && in.nextWord() == Reader.AND; i++) {
                in.advance();
                fine = readOne(in, sea, within) && put(Reader.AND);
            }
            return fine;
        }

        private boolean readOne(Reader in, Sea sea, int within) {
            int word = in.nextWord();
            boolean bracket = in.kind == '(';
            if (!bracket && (word < Reader.NOT || word > Reader.NUMBER)) {
                return in.refuse(1);
            }
            if (ones >= MOST_ONES || within > MOST_WITHIN) {
                return in.refuse(4);
            }
            ones++;
            in.advance();
            if (bracket) {
                return readCond(in, sea, within + 1) && in.takeSign(')');
            }
            if (word == Reader.NOT) {
                return readOne(in, sea, within + 1) && put(Reader.NOT);
            }
            if (word == Reader.BY) {
                return readLump(in, sea);
            }
            return word >= Reader.LOAD ? readComparison(in, word) : put(word);
        }

        private boolean readLump(Reader in, Sea sea) {
            if (in.nextWord() != Reader.NAME) {
                return in.refuse(1);
            }
            int lump = sea.lumpNamed(in.letters);
            if (lump == NONE) {
                return in.refuse(3);
            }
            in.advance();
            return put(Reader.BY | lump << NUMBER_SHIFT);
        }

        private boolean readComparison(Reader in, int word) {
            int sign = in.kind;
            if (sign != '<' && sign != '=' && sign != '>') {
                return in.refuse(1);
            }
            in.advance();
            int number = in.takeNumber(0, MOST_NUMBER);
            return number != NONE && put(word | sign << SIGN_SHIFT | number << NUMBER_SHIFT);
        }

        private boolean put(int code) {
            if (codeCount >= MOST_CODES) {
                return false;
            }
            codes[codeCount] = code;
            codeCount++;
            return true;
        }

        /** Whether it may be said of a BOAT; open answers are kept as bits, the newest lowest. */
        boolean holds(Sea sea, int b) {
            int answers = 0;
            for (int i = 0; i < codeCount; i++) {
                int newest = answers & 1;
                switch (codes[i] & WORD_MASK) {
                    case Reader.OR:
                        answers = answers >> 1 | newest;
                        break;
                    case Reader.AND:
                        answers = answers >> 1 & (newest | ~1);
                        break;
                    case Reader.NOT:
                        answers ^= 1;
                        break;
                    default:
                        answers = answers << 1 | (isSo(sea, b, codes[i]) ? 1 : 0);
                        break;
                }
            }
            return (answers & 1) == 1;
        }

        private static boolean isSo(Sea sea, int b, int code) {
            if (!sea.isBoat(b)) {
                return false;
            }
            int number = code >> NUMBER_SHIFT;
            int sign = code >> SIGN_SHIFT & SIGN_MASK;
            switch (code & WORD_MASK) {
                case Reader.EATEN:
                    return sea.isEaten(b);
                case Reader.AFLOAT:
                    return sea.isAfloat(b);
                case Reader.LANDED:
                    return sea.hasLumpIn(sea.boatCells[b]);
                case Reader.BY:
                    return sea.isLump(number) && Sea.areNear(sea.boatCells[b], sea.lumpCells[number]);
                case Reader.LOAD:
                    return compares(sea.loads[b], sign, number);
                case Reader.DEPTH:
                    return compares(sea.depths[b], sign, number);
                case Reader.LEFT:
                    return compares(sea.spoonsLeft[b], sign, number);
                default:
                    return compares(b, sign, number);
            }
        }

        private static boolean compares(int value, int sign, int number) {
            if (sign == '<') {
                return value < number;
            }
            return sign == '>' ? value > number : value == number;
        }
    }

    /** The WAY of a BOAT to a LUMP, and the latest that was found. */
    private static final class Route {
        /** A STEP counts 64 by its cost and 1, so that the least sum is cheapest, then shortest. */
        private static final int COST_WEIGHT = 64;
        private static final int TOO_FAR = 1 << 20;

        private final int[] farness;
        private final int[] sides;
        private int stepCount;
        int daysTaken;

        Route() {
            farness = new int[CELLS];
            sides = new int[CELLS];
            stepCount = 0;
            daysTaken = NONE;
        }

        /** SPOONS in all; NONE: there is no way. */
        int find(Sea sea, int b, int l) {
            if (!sea.isBoat(b) || !sea.isLump(l) || sea.isEaten(b)) {
                return NONE;
            }
            int from = sea.boatCells[b];
            int to = sea.lumpCells[l];
            measure(sea, to, sea.spoons[b]);
            int far = farnessOf(from);
            if (far >= TOO_FAR) {
                return NONE;
            }
            follow(sea, from, to, sea.spoons[b]);
            return far / COST_WEIGHT;
        }

        private int farnessOf(int cell) {
            return cell >= 0 && cell < CELLS ? farness[cell] : TOO_FAR;
        }

        /** How far the goal is from each cell: told again and again, until none is nearer. */
        private void measure(Sea sea, int goal, int spoons) {
            for (int cell = 0; cell < CELLS; cell++) {
                farness[cell] = cell == goal ? 0 : TOO_FAR;
            }
            boolean nearer = true;
            for (int round = 0; round < CELLS && nearer; round++) {
                nearer = false;
                for (int y = 0; y < sea.high; y++) {
                    for (int x = 0; x < sea.wide; x++) {
                        nearer |= bringNearer(sea, ACROSS * y + x, spoons);
                    }
                }
            }
        }

        private boolean bringNearer(Sea sea, int cell, int spoons) {
            boolean nearer = false;
            for (int side = 0; side < SIDES && cell < CELLS; side++) {
                int by = farnessBy(sea, cell, side, spoons);
                if (by < farness[cell]) {
                    farness[cell] = by;
                    nearer = true;
                }
            }
            return nearer;
        }

        /** How far the goal is from a cell, if the first STEP goes to that SIDE. */
        private int farnessBy(Sea sea, int cell, int side, int spoons) {
            int next = sea.nextCell(cell, side);
            if (next == NONE || sea.stepCost(next) > spoons) {
                return TOO_FAR;
            }
            return farnessOf(next) + COST_WEIGHT * sea.stepCost(next) + 1;
        }

        private void follow(Sea sea, int from, int to, int spoons) {
            int cell = from;
            int left = spoons;
            stepCount = 0;
            daysTaken = from == to ? 0 : 1;
            while (cell != to && stepCount < CELLS) {
                int side = firstSide(sea, cell, spoons);
                int next = sea.nextCell(cell, side);
                int price = sea.stepCost(next);
                if (price > left) {
                    daysTaken++;
                    left = spoons;
                }
                left -= price;
                sides[stepCount] = side;
                stepCount++;
                cell = next;
            }
        }

        private int firstSide(Sea sea, int cell, int spoons) {
            for (int side = 0; side < SIDES; side++) {
                if (farnessBy(sea, cell, side, spoons) == farnessOf(cell)) {
                    return side;
                }
            }
            return 0;
        }

        int sideAt(int k) {
            return k >= 0 && k < stepCount ? sides[k] : NONE;
        }
    }

    /** The fewest STIRS by which a BOAT and a LUMP MEET, and the latest that were found. */
    private static final class Meeting {
        private static final int MOST_STIRS = 3;
        /** STIRS are numbered in the order in which they are tried: 12 by column, 2 by line, back. */
        private static final int STIR_SORTS = 24;
        private static final int BY_COLUMN = 12;

        private final int[] tried;
        private final int[] found;
        private int foundCount;

        Meeting() {
            tried = new int[MOST_STIRS];
            found = new int[MOST_STIRS];
            foundCount = 0;
        }

        int find(Sea sea, int b, int l) {
            if (!sea.isBoat(b) || !sea.isLump(l) || sea.isEaten(b)) {
                return NONE;
            }
            for (int most = 0; most <= MOST_STIRS; most++) {
                if (search(sea, sea.boatCells[b], sea.lumpCells[l], 0, most)) {
                    System.arraycopy(tried, 0, found, 0, MOST_STIRS);
                    foundCount = most;
                    return most;
                }
            }
            return NONE;
        }

        private boolean search(Sea sea, int boatCell, int lumpCell, int done, int most) {
            if (done >= most || done >= MOST_STIRS) {
                return Sea.areNear(boatCell, lumpCell);
            }
            for (int s = 0; s < STIR_SORTS; s++) {
                if (!sea.isLine(columnOf(s), lineOf(s))) {
                    continue;
                }
                int boatThen = sea.stirredTo(boatCell, columnOf(s), lineOf(s), s % 2);
                int lumpThen = sea.stirredTo(lumpCell, columnOf(s), lineOf(s), s % 2);
                // One that moves neither is in no fewest STIRS: without it there are fewer.
                boolean moves = boatThen != boatCell || lumpThen != lumpCell;
                tried[done] = s;
                if (moves && search(sea, boatThen, lumpThen, done + 1, most)) {
                    return true;
                }
            }
            return false;
        }

        private static int columnOf(int stirSort) {
            return stirSort / BY_COLUMN;
        }

        private static int lineOf(int stirSort) {
            return stirSort % BY_COLUMN / 2;
        }

        int stirAt(int k, int what) {
            if (k < 0 || k >= foundCount) {
                return NONE;
            }
            switch (what) {
                case 0:
                    return columnOf(found[k]);
                case 1:
                    return lineOf(found[k]);
                case 2:
                    return found[k] % 2;
                default:
                    return NONE;
            }
        }
    }

    /** The cells in which one can have SUNK, by the latest look that found some. */
    private static final class Sighting {
        private static final int MOST_PAIRS = 6;

        private long cellBits;
        int bestBoat;

        Sighting() {
            cellBits = 0;
            bestBoat = NONE;
        }

        /** How many cells; NONE: the bytes are no pairs as told. */
        int look(Sea sea, byte[] bytes, int length) {
            if (!arePairs(sea, bytes, length)) {
                return NONE;
            }
            long bits = 0;
            for (int cell = 0; cell < CELLS; cell++) {
                if (sea.isCell(cell % ACROSS, cell / ACROSS) && allDoSo(sea, cell, bytes, length)) {
                    bits |= 1L << cell;
                }
            }
            if (bits != 0) {
                cellBits = bits;
                bestBoat = boatToSend(sea);
            }
            return Long.bitCount(bits);
        }

        private static boolean arePairs(Sea sea, byte[] bytes, int length) {
            if (length < 2 || length > 2 * MOST_PAIRS || length % 2 != 0 || length > bytes.length) {
                return false;
            }
            for (int i = 0; i + 1 < length; i += 2) {
                if (!sea.isBoat(bytes[i]) || bytes[i + 1] < 0 || bytes[i + 1] > 1) {
                    return false;
                }
            }
            return true;
        }

        private static boolean allDoSo(Sea sea, int cell, byte[] bytes, int length) {
            for (int i = 0; i + 1 < length && i + 1 < bytes.length; i += 2) {
                if (sea.wouldFloat(bytes[i], cell) != (bytes[i + 1] == 1)) {
                    return false;
                }
            }
            return true;
        }

        private int boatToSend(Sea sea) {
            int best = NONE;
            int fewest = CELLS + 1;
            for (int b = 0; b < sea.boats; b++) {
                int left = mostLeft(sea, b);
                if (left < fewest) {
                    best = b;
                    fewest = left;
                }
            }
            return best;
        }

        /** The most cells that may be left, if one hears whether this BOAT would be AFLOAT. */
        private int mostLeft(Sea sea, int b) {
            int floats = 0;
            for (int cell = 0; cell < CELLS; cell++) {
                boolean among = (cellBits >> cell & 1) == 1;
                floats += among && sea.wouldFloat(b, cell) ? 1 : 0;
            }
            return Math.max(floats, Long.bitCount(cellBits) - floats);
        }

        int cellAt(int k) {
            int seen = 0;
            for (int cell = 0; cell < CELLS && k >= 0; cell++) {
                if ((cellBits >> cell & 1) == 1) {
                    if (seen == k) {
                        return cell;
                    }
                    seen++;
                }
            }
            return NONE;
        }
    }

    /** DAYS that are DRAWN by a seed. */
    private static final class Draws {
        private int x;

        private int draw(int n) {
            x = x * 1103515245 + 12345;
            return n > 0 ? (x >>> 8) % n : 0;
        }

        /** How many DAYS went by. */
        int passDays(Sea sea, int n, int seed) {
            x = seed;
            int going = Math.min(n, sea.daysLeft());
            for (int i = 0; i < going; i++) {
                stirByDraw(sea);
                rowByDraw(sea);
                sea.passDay();
            }
            return going;
        }

        private void stirByDraw(Sea sea) {
            if (draw(3) != 0) {
                return;
            }
            int column = draw(2);
            int n = draw(column == 0 ? sea.high : sea.wide);
            int back = draw(2);
            if (sea.whyNotStirred(column, n, back) == 0) {
                sea.stirLine(column, n, back);
            }
        }

        private void rowByDraw(Sea sea) {
            for (int b = 0; b < sea.boats; b++) {
                if (sea.isEaten(b)) {
                    continue;
                }
                int side = draw(SIDES + 1);
                if (side < SIDES && sea.whyNotRowed(b, side) == 0) {
                    sea.rowBoat(b, side);
                }
            }
        }
    }

    /** The SEA as it was ahead of each of the latest acts, in a ring. */
    private static final class History {
        private static final int MOST_KEPT = 8;

        private final Sea[] ring;
        private int next;
        private int kept;

        History() {
            ring = new Sea[MOST_KEPT];
            for (int i = 0; i < MOST_KEPT; i++) {
                ring[i] = new Sea();
            }
            next = 0;
            kept = 0;
        }

        void forget() {
            kept = 0;
        }

        void keep(Sea sea) {
            Sea.copy(sea, ring[next]);
            next = (next + 1) % MOST_KEPT;
            kept = Math.min(MOST_KEPT, kept + 1);
        }

        /** The SEA is as it was ahead of the latest act: how many more are kept; NONE: none was. */
        int takeBack(Sea sea) {
            if (kept == 0) {
                return NONE;
            }
            next = (next + MOST_KEPT - 1) % MOST_KEPT;
            Sea.copy(ring[next], sea);
            kept--;
            return kept;
        }
    }

    /** A place for an image. */
    private static final class Image {
        final Sea sea;
        final Sentence sentence;
        boolean kept;

        Image() {
            sea = new Sea();
            sentence = new Sentence();
            kept = false;
        }
    }
}

import java.nio.charset.StandardCharsets;
import java.util.NoSuchElementException;

/** What the tests share: answers that are due, and texts put on the tape. */
final class Due {
    private static int asked = 0;
    private static int wrong = 0;

    private Due() {
    }

    static void due(String what, long got, long want) {
        asked++;
        if (got != want) {
            wrong++;
            System.out.println(what + " answered " + got + ", due is " + want);
        }
    }

    static void due(String what, boolean got, boolean want) {
        due(what, got ? 1 : 0, want ? 1 : 0);
    }

    static void due(String what, String got, String want) {
        asked++;
        if (!got.equals(want)) {
            wrong++;
            System.out.println(what + " answered '" + got + "', due is '" + want + "'");
        }
    }

    static void boatThrows(PorridgeSea x, int b, int what) {
        boolean thrown = false;
        try {
            x.boat(b, what);
        } catch (NoSuchElementException e) {
            thrown = true;
        }
        due("boat(" + b + ", " + what + ") throws", thrown, true);
    }

    static void meanThrows(PorridgeSea x, int y, int what) {
        boolean thrown = false;
        try {
            x.mean(y, what);
        } catch (NoSuchElementException e) {
            thrown = true;
        }
        due("mean(" + y + ", " + what + ") throws", thrown, true);
    }

    static void close(String test) {
        System.out.println(test + ": " + asked + " answers, " + wrong + " not as due");
        if (wrong != 0 || asked == 0) {
            System.exit(1);
        }
    }

    /** Puts bytes on an empty tape. */
    static PorridgeSea tape(PorridgeSea x, byte[] bytes) {
        for (int i = 0; i < bytes.length; i += 20) {
            x.feed(four(bytes, i), four(bytes, i + 4), four(bytes, i + 8), four(bytes, i + 12), four(bytes, i + 16));
        }
        x.end(bytes.length);
        return x;
    }

    private static int four(byte[] bytes, int from) {
        int value = 0;
        for (int i = from; i < from + 4; i++) {
            value = value << 8 | (i < bytes.length ? bytes[i] & 255 : 0);
        }
        return value;
    }

    static PorridgeSea tape(PorridgeSea x, String text) {
        return tape(x, text.getBytes(StandardCharsets.ISO_8859_1));
    }

    static int sea(PorridgeSea x, String text) {
        return tape(x, text).sea();
    }

    static int book(PorridgeSea x, String text, int lives) {
        return tape(x, text).book(lives);
    }

    static int sentence(PorridgeSea x, String text) {
        return tape(x, text).sentence();
    }

    static int sunk(PorridgeSea x, int... pairs) {
        byte[] bytes = new byte[pairs.length];
        for (int i = 0; i < pairs.length; i++) {
            bytes[i] = (byte) pairs[i];
        }
        return tape(x, bytes).sunk();
    }

    /** A new object with this SEA, which must have no FAULT. */
    static PorridgeSea made(String text) {
        PorridgeSea x = new PorridgeSea();
        due("sea() of '" + text + "' has a FAULT", sea(x, text) < 0, false);
        return x;
    }

    static String chart(PorridgeSea x, int b) {
        StringBuilder text = new StringBuilder();
        int length = x.chart(b);
        for (int i = 0; i < length; i++) {
            text.append((char) x.byteAt(i));
        }
        return text.toString();
    }

    /** SIDES of the latest way(), as digits. */
    static String sides(PorridgeSea x) {
        StringBuilder text = new StringBuilder();
        for (int k = 0; x.wayAt(k) != PorridgeSea.NONE; k++) {
            text.append(x.wayAt(k));
        }
        return text.toString();
    }

    /** STIRS of the latest meet(): three digits each. */
    static String stirs(PorridgeSea x) {
        StringBuilder text = new StringBuilder();
        for (int k = 0; x.meetAt(k, 0) != PorridgeSea.NONE; k++) {
            text.append(k == 0 ? "" : " ").append(x.meetAt(k, 0)).append(x.meetAt(k, 1)).append(x.meetAt(k, 2));
        }
        return text.toString();
    }

    /** Thickness row by row, rows parted by a stroke. */
    static String cells(PorridgeSea x) {
        StringBuilder text = new StringBuilder();
        for (int row = 0; row < x.count(1); row++) {
            text.append(row == 0 ? "" : "/");
            for (int column = 0; column < x.count(0); column++) {
                text.append(x.thick(column, row));
            }
        }
        return text.toString();
    }

    /** All that can be asked of the SEA as it is, without changing what other calls told last. */
    static String state(PorridgeSea x) {
        StringBuilder text = new StringBuilder(cells(x));
        for (int what = 0; what < 8; what++) {
            text.append(' ').append(x.now(what));
        }
        for (int what = 0; what < 6; what++) {
            text.append(' ').append(x.count(what));
        }
        for (int l = 0; l < x.count(2); l++) {
            text.append(" l").append(x.lump(l, 0)).append(x.lump(l, 1));
        }
        for (int b = 0; b < x.count(3); b++) {
            text.append(" b");
            for (int what = 0; what < 8; what++) {
                text.append(x.boat(b, what));
            }
        }
        return text.toString();
    }
}

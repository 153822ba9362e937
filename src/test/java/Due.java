import java.nio.charset.StandardCharsets;
import java.util.NoSuchElementException;

/** What the tests share: answers that are due, and texts put on the tape. */
final class Due {
    /** Numbers that are none of a SEA's: far off, and such as come near when bits are cut off. */
    static final int[] FAR = {Integer.MIN_VALUE, Integer.MIN_VALUE + 1, -65536, -256, -7, -2, 64, 256, 65536,
        0x01000000, Integer.MAX_VALUE - 1, Integer.MAX_VALUE};

    /** What a text on the tape is read as. */
    static final int SEA = 0;
    static final int BOOK = 1;
    static final int SENTENCE = 2;

    private static int asked = 0;
    private static int wrong = 0;

    private Due() {
    }

    static void due(String what, long got, long want) {
        asked++;
        if (got != want) {
            wrong++;
            System.out.println(what + " answered " + got + ", due is " + want);
        }
    }

    static void due(String what, boolean got, boolean want) {
        due(what, got ? 1 : 0, want ? 1 : 0);
    }

    static void due(String what, String got, String want) {
        asked++;
        if (!got.equals(want)) {
            wrong++;
            System.out.println(what + " answered '" + got + "', due is '" + want + "'");
        }
    }

    static void boatThrows(PorridgeSea x, int b, int what) {
        boolean thrown = false;
        try {
            x.boat(b, what);
        } catch (NoSuchElementException e) {
            thrown = true;
        }
        due("boat(" + b + ", " + what + ") throws", thrown, true);
    }

    static void meanThrows(PorridgeSea x, int y, int what) {
        boolean thrown = false;
        try {
            x.mean(y, what);
        } catch (NoSuchElementException e) {
            thrown = true;
        }
        due("mean(" + y + ", " + what + ") throws", thrown, true);
    }

    static void close(String test) {
        System.out.println(test + ": " + asked + " answers, " + wrong + " not as due");
        if (wrong != 0 || asked == 0) {
            System.exit(1);
        }
    }

    /** Puts bytes on an empty tape; what stands behind its end then would lengthen a TOKEN, and is no pair. */
    static PorridgeSea tape(PorridgeSea x, byte[] bytes) {
        for (int i = 0; i < bytes.length; i += 20) {
            x.feed(four(bytes, i), four(bytes, i + 4), four(bytes, i + 8), four(bytes, i + 12), four(bytes, i + 16));
        }
        x.end(bytes.length);
        return x;
    }

    private static int four(byte[] bytes, int from) {
        int value = 0;
        for (int i = from; i < from + 4; i++) {
            value = value << 8 | (i < bytes.length ? bytes[i] & 255 : '7');
        }
        return value;
    }

    static PorridgeSea tape(PorridgeSea x, String text) {
        return tape(x, text.getBytes(StandardCharsets.ISO_8859_1));
    }

    static int sea(PorridgeSea x, String text) {
        return tape(x, text).sea();
    }

    static int book(PorridgeSea x, String text, int lives) {
        return tape(x, text).book(lives);
    }

    static int sentence(PorridgeSea x, String text) {
        return tape(x, text).sentence();
    }

    static int read(PorridgeSea x, int how, String text) {
        return how == SEA ? sea(x, text) : how == BOOK ? book(x, text, 1) : sentence(x, text);
    }

    /** The text is read without a FAULT, with this answer. */
    static void fine(PorridgeSea x, int how, String text, int answer) {
        due("the answer to '" + text + "'", read(x, how, text), answer);
        due("fault() of '" + text + "'", x.fault(), 0);
        due("the tape behind '" + text + "'", x.count(6), 0);
    }

    /** The text has this FAULT, and leaves all as it was. */
    static void fault(PorridgeSea x, int how, String text, int kind, int place) {
        String before = state(x);
        due("the answer to '" + text + "'", read(x, how, text), (how == BOOK ? -2 : -1) - place);
        due("fault() of '" + text + "'", x.fault(), kind);
        due("the tape behind '" + text + "'", x.count(6), 0);
        due("all stays behind '" + text + "'", state(x), before);
    }

    /** A text of one number that is as told from least to most: the FAULT else is at the number. */
    static void range(PorridgeSea x, int how, String ahead, String behind, int least, int most) {
        int[] far = {least - 1, least, most, most + 1, 99, 100, 998, 999};
        for (int n : far) {
            String text = ahead + n + behind;
            if (n >= least && n <= most) {
                due("'" + text + "' has a FAULT", read(x, how, text) < (how == BOOK ? -1 : 0), false);
            } else if (n >= 0) {
                fault(x, how, text, 2, ahead.length());
            }
        }
        fault(x, how, ahead + "?" + behind, 1, ahead.length());
        fault(x, how, ahead + "0000" + behind, 1, ahead.length());
        fault(x, how, ahead + least + "a" + behind, 1, ahead.length());
        fault(x, how, ahead + "east" + behind, 1, ahead.length());
        fault(x, how, ahead, 1, ahead.length());
    }

    static int sunk(PorridgeSea x, int... pairs) {
        byte[] bytes = new byte[pairs.length];
        for (int i = 0; i < pairs.length; i++) {
            bytes[i] = (byte) pairs[i];
        }
        return tape(x, bytes).sunk();
    }

    /** A new object with this SEA, which must have no FAULT. */
    static PorridgeSea made(String text) {
        PorridgeSea x = new PorridgeSea();
        due("sea() of '" + text + "' has a FAULT", sea(x, text) < 0, false);
        return x;
    }

    static String chart(PorridgeSea x, int b) {
        StringBuilder text = new StringBuilder();
        int length = x.chart(b);
        for (int i = 0; i < length; i++) {
            text.append((char) x.byteAt(i));
        }
        return text.toString();
    }

    /** SIDES of the latest way(), as digits. */
    static String sides(PorridgeSea x) {
        StringBuilder text = new StringBuilder();
        for (int k = 0; x.wayAt(k) != PorridgeSea.NONE; k++) {
            text.append(x.wayAt(k));
        }
        return text.toString();
    }

    /** STIRS of the latest meet(): three digits each. */
    static String stirs(PorridgeSea x) {
        StringBuilder text = new StringBuilder();
        for (int k = 0; x.meetAt(k, 0) != PorridgeSea.NONE; k++) {
            text.append(k == 0 ? "" : " ").append(x.meetAt(k, 0)).append(x.meetAt(k, 1)).append(x.meetAt(k, 2));
        }
        return text.toString();
    }

    /** Thickness row by row, rows parted by a stroke. */
    static String cells(PorridgeSea x) {
        StringBuilder text = new StringBuilder();
        for (int row = 0; row < x.count(1); row++) {
            text.append(row == 0 ? "" : "/");
            for (int column = 0; column < x.count(0); column++) {
                text.append(x.thick(column, row));
            }
        }
        return text.toString();
    }

    /** All that can be asked of the SEA as it is, without changing what other calls told last. */
    static String state(PorridgeSea x) {
        StringBuilder text = new StringBuilder(cells(x));
        for (int what = 0; what < 8; what++) {
            text.append(' ').append(x.now(what));
        }
        for (int what = 0; what < 6; what++) {
            text.append(' ').append(x.count(what));
        }
        for (int l = 0; l < x.count(2); l++) {
            text.append(" l").append(x.lump(l, 0)).append(x.lump(l, 1));
        }
        for (int b = 0; b < x.count(3); b++) {
            text.append(" b");
            for (int what = 0; what < 8; what++) {
                text.append(x.boat(b, what));
            }
        }
        return text.toString();
    }

    /** All that can be seen without a change: the SEA as it is, the tape, and what calls told last. */
    static String all(PorridgeSea x) {
        StringBuilder text = new StringBuilder(state(x));
        text.append(" tape ").append(x.count(6)).append(" fault ").append(x.fault());
        text.append(" way ").append(sides(x)).append(' ').append(x.wayDays());
        text.append(" meet ").append(stirs(x)).append(" sunk");
        for (int k = 0; x.sunkAt(k) != PorridgeSea.NONE; k++) {
            text.append(' ').append(x.sunkAt(k));
        }
        text.append(" send ").append(x.send()).append(" fleet ").append(x.fleets()).append(" chart ");
        for (int i = 0; x.byteAt(i) != PorridgeSea.NONE; i++) {
            text.append((char) x.byteAt(i));
        }
        text.append(" told");
        for (int what = 0; what < 4; what++) {
            text.append(' ').append(x.told(what));
        }
        text.append(" said ").append(x.said(-1));
        for (int k = 0; x.said(k) != PorridgeSea.NONE; k++) {
            text.append(' ').append(x.said(k));
        }
        return text.toString();
    }

    /** What the questions answer as the SEA is; what way(), meet() and fleet() told last is theirs then. */
    static String questions(PorridgeSea x) {
        StringBuilder text = new StringBuilder();
        for (int row = -1; row <= 6; row++) {
            for (int column = -1; column <= 6; column++) {
                text.append(x.cost(column, row)).append(' ');
            }
        }
        for (int row = 0; row < x.count(1); row++) {
            text.append(" m").append(x.mean(row, 0)).append('/').append(x.mean(row, 1));
        }
        for (int l = 0; l < 6; l++) {
            text.append(" l").append(x.land(l));
            for (int b = 0; b < 6; b++) {
                text.append(' ').append(x.way(b, l)).append(sides(x)).append(' ').append(x.meet(b, l)).append(stirs(x));
            }
        }
        for (int b = 0; b < 6; b++) {
            text.append(" b").append(x.odds(b, 3, 99)).append(chart(x, b));
        }
        for (int n = 1; n <= 54; n++) {
            text.append(' ').append(x.fleet(n)).append(' ').append(x.fleets());
        }
        return text.append(" s").append(x.skin()).toString();
    }
}

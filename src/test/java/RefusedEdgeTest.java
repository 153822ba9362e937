import java.util.NoSuchElementException;

/** Calls that are refused, or throw, or only ask: what stays as it was. */
final class RefusedEdgeTest {
    private static final String SEA = "sea 3 2;heat 9;cools 1;skin 2;thick 0 0 9;thick 1 0 2;lump rock 2 0;"
            + "lump isle 0 1;boat cup 1 0 3 4;boat mug 1 1 0 2;boat pan 0 1 9 9;";

    /** A call that must leave all as it is. */
    private interface Call {
        void make();
    }

    private RefusedEdgeTest() {
    }

    public static void main(String[] args) {
        PorridgeSea warm = told(Due.made(SEA), 0);
        refusedAlways(warm);
        refusedWarm(warm);
        Due.due("two acts can be undone still", warm.undo(), 1);
        PorridgeSea late = told(Due.made(SEA), 397);
        refusedAlways(late);
        refusedLate(late);
        refusedWhenFull(late);
        PorridgeSea first = new PorridgeSea();
        refusedAlways(first);
        refusedAheadOfAny(first);
        Due.due("nothing was done", first.undo(), -1);
        faultsChangeTheTapeAlone(told(Due.made(SEA), 0));
        Due.close("RefusedEdgeTest");
    }

    /** An object of which every call that tells something has told something. */
    private static PorridgeSea told(PorridgeSea x, int days) {
        for (int left = days; left > 0; left -= 60) {
            x.days(Math.min(60, left));
        }
        x.row(1, 0);
        x.way(1, 1);
        x.meet(1, 0);
        Due.sunk(x, 1, 1);
        x.fleet(9);
        x.chart(1);
        Due.book(x, "stove 1;mug south;", 0);
        Due.sentence(x, "load = 0 or by rock");
        x.days(3);
        Due.sentence(x, "?");
        x.feed(0x64617920, 0x313b2020, 0, 0, 0);
        x.end(8);
        return x;
    }

    private static void stays(PorridgeSea x, String what, Call call) {
        String before = Due.all(x);
        call.make();
        Due.due(what + " leaves all", Due.all(x), before);
    }

    private static boolean throwsNone(Call call) {
        try {
            call.make();
        } catch (NoSuchElementException e) {
            return false;
        }
        return true;
    }

    private static void refusedAlways(PorridgeSea x) {
        int[] odd = {Integer.MIN_VALUE, -2, -1, 6, 7, 61, Integer.MAX_VALUE};
        for (int n : odd) {
            stays(x, "boat()", () -> Due.due("boat() throws", throwsNone(() -> x.boat(n, 0)), false));
            stays(x, "mean()", () -> Due.due("mean() throws", throwsNone(() -> x.mean(n, 0)), false));
            stays(x, "mean()", () -> Due.due("mean() throws", throwsNone(() -> x.mean(0, n)), false));
            stays(x, "stir()", () -> Due.due("stir()", x.stir(0, n, 0), -1));
            stays(x, "stir()", () -> Due.due("stir()", x.stir(n, 0, 0), -1));
            stays(x, "stir()", () -> Due.due("stir()", x.stir(0, 0, n), -1));
            stays(x, "row()", () -> Due.due("row()", x.row(n, 0), -1));
            stays(x, "flour()", () -> Due.due("flour()", x.flour(n, 0, 1), -1));
            stays(x, "milk()", () -> Due.due("milk()", x.milk(0, n, 1), -1));
            stays(x, "way()", () -> Due.due("way()", x.way(n, 0), -1));
            stays(x, "meet()", () -> Due.due("meet()", x.meet(n, 0), -1));
            stays(x, "land()", () -> Due.due("land()", x.land(n), -1));
            stays(x, "chart()", () -> Due.due("chart()", x.chart(n), -1));
            stays(x, "odds()", () -> Due.due("odds()", x.odds(n, 1, 1), -1));
            stays(x, "book()", () -> Due.due("book()", x.book(n), -1000));
            stays(x, "image()", () -> Due.due("image()", x.image(n), false));
            stays(x, "restore()", () -> Due.due("restore()", x.restore(n), false));
            stays(x, "asking", () -> asking(x, n));
        }
        int[] none = {Integer.MIN_VALUE, -1, 0, 61, Integer.MAX_VALUE};
        for (int n : none) {
            stays(x, "days()", () -> Due.due("days()", x.days(n), -1));
            stays(x, "drawn()", () -> Due.due("drawn()", x.drawn(n, 5), -1));
            stays(x, "stove()", () -> Due.due("stove()", x.stove(n), -1));
            stays(x, "fleet()", () -> Due.due("fleet()", x.fleet(n), -1));
            stays(x, "flour()", () -> Due.due("flour()", x.flour(0, 0, n), -1));
            stays(x, "milk()", () -> Due.due("milk()", x.milk(0, 0, n), -1));
            stays(x, "odds()", () -> Due.due("odds()", x.odds(0, n, 5), -1));
        }
        stays(x, "end()", () -> Due.due("end()", x.end(x.count(6) + 1), false));
        stays(x, "end()", () -> Due.due("end()", x.end(-1), false));
        stays(x, "end() of all", () -> Due.due("end()", x.end(x.count(6)), true));
        stays(x, "restore() of nothing", () -> Due.due("restore()", x.restore(0), false));
    }

    private static void asking(PorridgeSea x, int n) {
        x.thick(n, n);
        x.lump(n, n);
        x.now(n);
        x.cost(n, n);
        x.skin();
        x.wayAt(n);
        x.meetAt(n, n);
        x.sunkAt(n);
        x.byteAt(n);
        x.told(n);
        x.said(n);
        x.count(n);
    }

    private static void refusedWarm(PorridgeSea x) {
        stays(x, "row() over the rim", () -> Due.due("row()", x.row(1, 0), 2));
        stays(x, "row() of an EATEN one", () -> Due.due("row()", x.row(0, 1), 1));
        stays(x, "flour() on 9", () -> Due.due("flour()", x.flour(0, 0, 1), 1));
        stays(x, "milk() on 0", () -> Due.due("milk()", x.milk(2, 1, 1), 1));
        stays(x, "way() of an EATEN one", () -> Due.due("way()", x.way(0, 0), -1));
        stays(x, "meet() of an EATEN one", () -> Due.due("meet()", x.meet(0, 0), -1));
        stays(x, "fleet() of too much", () -> Due.due("fleet()", x.fleet(10), -1));
        stays(x, "odds()", () -> Due.due("odds()", x.odds(0, 30, 5), 30));
        stays(x, "image()", () -> Due.due("image()", x.image(1), true));
        stays(x, "land()", () -> Due.due("land()", x.land(0), 1));
        stays(x, "mean()", () -> Due.due("mean()", x.mean(0, 0), 11));
    }

    /** On DAY 400, under a SKIN. */
    private static void refusedLate(PorridgeSea x) {
        Due.due("the DAY", x.now(0), 400);
        stays(x, "stir() under a SKIN", () -> Due.due("stir()", x.stir(0, 0, 0), 1));
        stays(x, "days()", () -> Due.due("days()", x.days(60), 0));
        stays(x, "drawn()", () -> Due.due("drawn()", x.drawn(60, 5), 0));
        stays(x, "odds()", () -> Due.due("odds()", x.odds(1, 30, 5), 0));
        x.stove(20);
        x.stove(20);
        stays(x, "stove() at 30", () -> Due.due("stove()", x.stove(1), 1));
        x.row(1, 2);
        x.row(1, 0);
        stays(x, "row() without SPOONS", () -> Due.due("row()", x.row(1, 2), 3));
    }

    private static void refusedWhenFull(PorridgeSea x) {
        for (int i = 0; i < 60; i++) {
            x.feed(1, 2, 3, 4, 5);
        }
        Due.due("the tape", x.count(6), 928);
        stays(x, "feed()", () -> Due.due("feed()", x.feed(1, 2, 3, 4, 5), -1));
    }

    private static void refusedAheadOfAny(PorridgeSea x) {
        stays(x, "undo()", () -> Due.due("undo()", x.undo(), -1));
        stays(x, "way()", () -> Due.due("way()", x.way(0, 0), -1));
        stays(x, "meet()", () -> Due.due("meet()", x.meet(0, 0), -1));
        stays(x, "sunk() of nothing", () -> Due.due("sunk()", x.sunk(), -1));
        stays(x, "fleet()", () -> Due.due("fleet()", x.fleet(1), -1));
        stays(x, "chart()", () -> Due.due("chart()", x.chart(0), -1));
        stays(x, "land()", () -> Due.due("land()", x.land(0), -1));
        stays(x, "odds()", () -> Due.due("odds()", x.odds(0, 1, 1), -1));
        stays(x, "boat()", () -> Due.due("boat() throws", throwsNone(() -> x.boat(0, 0)), false));
    }

    /** A FAULT is told by fault(), and empties the tape; all else stays. */
    private static void faultsChangeTheTapeAlone(PorridgeSea x) {
        String before = withoutTape(x);
        String[] faults = {"?", "heat 31;", "sea 2 2;thick 1 1 1;lump a 0 0;boat b 0 0 0 1;sea 3 3;", "day 1", "not"};
        for (String text : faults) {
            for (int how = 0; how < 4; how++) {
                x.end(0);
                Due.tape(x, text);
                int answer = how == 0 ? x.sea() : how == 1 ? x.book(1) : how == 2 ? x.sentence() : x.sunk();
                Due.due("a FAULT, or not as told", answer < 0, true);
                Due.due("the tape is empty", x.count(6), 0);
                Due.due("all else stays", withoutTape(x), before);
            }
        }
        Due.due("two acts can be undone still", x.undo(), 1);
    }

    private static String withoutTape(PorridgeSea x) {
        return Due.all(x).replaceAll("tape [0-9]+ fault [0-9]", "");
    }
}

/** Books, sentences and images: promises 35 to 40. */
final class BookTest {
    private static final String SEA = "sea 3 2;heat 9;cools 1;skin 2;thick 0 0 9;thick 1 0 2;"
            + "lump rock 2 0;lump isle 0 1;boat cup 1 0 3 4;boat mug 1 1 0 2;boat pan 0 1 9 9;";

    private BookTest() {
    }

    public static void main(String[] args) {
        booksThatAreFine();
        wrongLines();
        judgedOrLived();
        toldOfTheLatest();
        sentences();
        words();
        comparisons();
        images();
        Due.close("BookTest");
    }

    private static void booksThatAreFine() {
        PorridgeSea x = Due.made(SEA);
        Due.due("an empty BOOK", Due.book(x, "", 0), -1);
        Due.due("why", x.told(0), 0);
        Due.due("LINES", x.told(1), 0);
        Due.due("all sorts", Due.book(x, "stir row 0 on; stir column 2 back; mug east; mug west;"
                + "flour 0 1 5; milk 1 0 2; stove 4; day 3;", 1), -1);
        Due.due("why", x.told(0), 0);
        Due.due("LINES", x.told(1), 8);
        Due.due("DAY", x.told(2), 3);
        Due.due("STIRS", x.now(6), 2);
        Due.due("STEPS", x.now(7), 2);
        Due.due("heat", x.now(1), 10);
        PorridgeSea y = Due.made(SEA);
        y.stir(0, 0, 0);
        y.stir(1, 2, 1);
        y.row(1, 0);
        y.row(1, 2);
        y.flour(0, 1, 5);
        y.milk(1, 0, 2);
        y.stove(4);
        y.days(3);
        Due.due("as by calls", Due.state(x), Due.state(y));
        Due.due("EATEN", x.told(3), y.now(3));
    }

    private static void wrong(String text, int line, int why) {
        PorridgeSea x = Due.made(SEA);
        Due.due("book(0) of '" + text + "'", Due.book(x, text, 0), line);
        Due.due("why", x.told(0), why);
        Due.due("LINES that are not", x.told(1), line);
        Due.due("no FAULT", x.fault(), 0);
    }

    private static void wrongLines() {
        wrong("stir row 2 on;", 0, 9);
        wrong("stir column 3 on;", 0, 9);
        wrong("stir column 2 on;stir row 1 on;stir row 5 back;", 2, 9);
        wrong("day 7;stir row 0 on;", 1, 1);
        wrong("day 7;stir row 2 on;", 1, 9);
        wrong("day 3;cup east;", 1, 11);
        wrong("day 3;cup north;", 1, 11);
        wrong("cup north;", 0, 12);
        wrong("cup west;cup north;", 1, 12);
        wrong("mug east;mug west;mug east;", 2, 13);
        wrong("flour 0 0 1;", 0, 21);
        wrong("flour 3 0 1;", 0, 29);
        wrong("flour 0 2 1;", 0, 29);
        wrong("milk 2 0 1;", 0, 31);
        wrong("milk 3 0 1;", 0, 39);
        wrong("milk 0 2 1;", 0, 39);
        wrong("stove 20;stove 2;stove 1;", 2, 41);
        wrong("day 60;day 60;day 60;day 60;day 60;day 60;day 41;", 6, 51);
        PorridgeSea x = Due.made(SEA);
        Due.due("to the last DAY", Due.book(x, "day 60;day 60;day 60;day 60;day 60;day 60;day 40;", 0), -1);
        Due.due("the DAY then", x.told(2), 400);
        Due.due("WRONG at once", Due.book(x, "day 60;day 60;day 60;day 60;day 60;day 60;day 41;", 1), 6);
        Due.due("none of its DAYS went", x.now(0), 360);
    }

    private static void judgedOrLived() {
        PorridgeSea x = Due.made(SEA);
        String before = Due.state(x);
        String text = "stove 5;day 3;cup east;stove 5;";
        Due.due("judged", Due.book(x, text, 0), 2);
        Due.due("all stays", Due.state(x), before);
        Due.due("nothing to undo", x.undo(), -1);
        Due.due("the DAY then", x.told(2), 3);
        Due.due("EATEN then", x.told(3), 1);
        Due.due("lived", Due.book(x, text, 1), 2);
        Due.due("heat", x.now(1), 11);
        Due.due("DAY", x.now(0), 3);
        Due.due("EATEN", x.now(3), 1);
        Due.due("undone as one", x.undo(), 0);
        Due.due("as it was", Due.state(x), before);
        Due.due("the SENTENCE is not asked", x.said(-1), -1);
    }

    private static void toldOfTheLatest() {
        PorridgeSea x = Due.made(SEA);
        Due.book(x, "day 2;stir row 5 on;", 1);
        int[] told = {9, 1, 2, 0};
        Due.book(x, "day 99;", 1);
        Due.book(x, "day 9;", 2);
        x.end(0);
        Due.sea(x, "");
        for (int what = 0; what < 4; what++) {
            Due.due("told(" + what + ")", x.told(what), told[what]);
        }
        Due.due("told(4)", x.told(4), -1);
        Due.due("told(-1)", x.told(-1), -1);
        Due.book(x, "", 0);
        Due.due("told(0) of a new one", x.told(0), 0);
    }

    /** Which BOATS it may be said of, as digits. */
    private static String said(PorridgeSea x, String text) {
        Due.due("sentence() of '" + text + "' has a FAULT", Due.sentence(x, text) < 1, false);
        StringBuilder boats = new StringBuilder();
        int count = x.said(-1);
        for (int k = 0; k < count; k++) {
            boats.append(x.said(k));
        }
        Due.due("none behind the last", x.said(count), -1);
        Due.due("said(-2)", x.said(-2), -1);
        return boats.toString();
    }

    private static void sentences() {
        PorridgeSea x = Due.made(SEA);
        Due.due("ONES", Due.sentence(x, "not ( eaten or afloat ) and load > 2"), 5);
        Due.due("and binds closer", said(x, "number = 0 or number = 1 and number = 2"), "0");
        Due.due("brackets", said(x, "(number = 0 or number = 1) and number = 1"), "1");
        Due.due("not binds closest", said(x, "not number = 0 and number < 2"), "1");
        Due.due("not of a bracket", said(x, "not (number = 0 and number < 2)"), "12");
        Due.due("not not", said(x, "not not number = 2"), "2");
        Due.due("or chain", said(x, "number = 0 or number = 2 or number = 7"), "02");
        Due.due("and chain", said(x, "number > 0 and number < 9 and not number = 1"), "2");
        Due.due("of none", said(x, "eaten and not eaten"), "");
        Due.due("none of none", x.said(-1), 0);
        Due.due("deep to the right",
                said(x, "number=9 or(number=9 or(number=9 or(number=9 or(number=9 or(number=9 or(number=1))))))"), "1");
        PorridgeSea none = new PorridgeSea();
        Due.sentence(none, "afloat");
        Due.due("of no BOATS", none.said(-1), 0);
        Due.due("the first of no BOATS", none.said(0), -1);
    }

    private static void words() {
        PorridgeSea x = Due.made(SEA);
        Due.due("afloat", said(x, "afloat"), "12");
        Due.due("landed", said(x, "landed"), "2");
        Due.due("by rock", said(x, "by rock"), "0");
        Due.due("by isle", said(x, "by isle"), "12");
        Due.due("by both", said(x, "by rock or by isle"), "012");
        Due.due("eaten", said(x, "eaten"), "");
        x.days(3);
        Due.due("as it is now", x.said(-1), 1);
        Due.due("as it is now", x.said(0), 0);
        Due.due("an EATEN one's cell", said(x, "eaten and by rock"), "0");
        x.stir(0, 0, 0);
        Due.due("the LUMP went on", said(x, "by rock"), "02");
        x.stir(0, 0, 0);
        Due.due("an EATEN one is where it was last", said(x, "landed and eaten"), "0");
    }

    private static void comparisons() {
        PorridgeSea x = Due.made(SEA);
        Due.due("load <", said(x, "load < 3"), "1");
        Due.due("load =", said(x, "load = 3"), "0");
        Due.due("load >", said(x, "load > 3"), "2");
        Due.due("left", said(x, "left = 2"), "1");
        x.row(1, 0);
        Due.due("left today", said(x, "left = 1"), "1");
        x.days(2);
        Due.due("depth", said(x, "depth > 1"), "0");
        Due.due("depth", said(x, "depth = 2"), "0");
        Due.due("depth", said(x, "depth < 2"), "12");
        Due.due("999", said(x, "number < 999"), "012");
        Due.due("000", said(x, "number > 000"), "12");
    }

    private static void images() {
        PorridgeSea x = Due.made(SEA);
        Due.due("image(-1)", x.image(-1), false);
        Due.due("image(2)", x.image(2), false);
        Due.due("restore(0) without one", x.restore(0), false);
        Due.due("restore(-1)", x.restore(-1), false);
        Due.due("restore(2)", x.restore(2), false);
        Due.sentence(x, "load = 0");
        x.stir(0, 0, 0);
        x.days(2);
        String kept = Due.state(x);
        Due.due("image(0)", x.image(0), true);
        x.days(2);
        Due.sea(x, "sea 2 2;boat new 0 0 9 9;lump old 1 1;");
        String other = Due.state(x);
        Due.due("image(1)", x.image(1), true);
        Due.sentence(x, "load = 9");
        x.flour(0, 0, 1);
        x.way(0, 0);
        x.fleet(9);
        x.feed(1, 2, 3, 4, 5);
        Due.due("restore(0)", x.restore(0), true);
        Due.due("as kept", Due.state(x), kept);
        Due.due("NAMES, too", Due.chart(x, 1), "mug at 1 1");
        Due.due("the SENTENCE", x.said(0), 1);
        Due.due("the tape stays", x.count(6), 20);
        Due.due("way() stays", Due.sides(x), "01");
        Due.due("fleet() stays", x.fleets(), 1);
        Due.due("nothing can be undone", x.undo(), -1);
        x.days(1);
        Due.due("undone behind it", x.undo(), 0);
        x.end(0);
        Due.due("NAMES in a BOOK", Due.book(x, "mug east;", 0), -1);
        Due.due("restore(1)", x.restore(1), true);
        Due.due("as kept", Due.state(x), other);
        Due.due("no SENTENCE then", x.said(-1), -1);
        Due.due("NAMES not told", Due.book(x, "mug east;", 0), -2);
        Due.due("restore(0) again", x.restore(0), true);
        Due.due("as kept", Due.state(x), kept);
        x.days(1);
        String later = Due.state(x);
        x.image(0);
        x.days(1);
        x.restore(0);
        Due.due("the latest image", Due.state(x), later);
        x.days(1);
        x.restore(5);
        Due.due("a restore that is not leaves acts", x.undo(), 0);
    }
}

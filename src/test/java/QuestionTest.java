/** Questions, charts and draws: promises 19 to 34. */
final class QuestionTest {
    private static final String SEA = "sea 3 3;thick 0 0 3;thick 1 0 6;thick 2 1 9;thick 1 2 4;"
            + "lump rock 2 0;lump isle 2 1;lump skerry 0 2;"
            + "boat spoon 0 0 3 2;boat ladle 1 1 5 4;boat cup 0 1 0 3;heat 6;cools 2;skin 2;";

    private QuestionTest() {
    }

    public static void main(String[] args) {
        ways();
        waysOfLikeCost();
        meetings();
        sunkCells();
        boatToSend();
        lands();
        means();
        fleets();
        charts();
        drawnDays();
        oddsOfABoat();
        Due.close("QuestionTest");
    }

    private static void ways() {
        PorridgeSea x = Due.made(SEA);
        Due.due("too few SPOONS", x.way(0, 0), -1);
        Due.due("way(2, 0)", x.way(2, 0), 5);
        Due.due("its SIDES", Due.sides(x), "030");
        Due.due("its DAYS", x.wayDays(), 3);
        Due.due("no such BOAT", x.way(3, 0), -1);
        Due.due("no such BOAT", x.way(-1, 0), -1);
        Due.due("no such LUMP", x.way(0, 3), -1);
        Due.due("no such LUMP", x.way(0, -1), -1);
        Due.due("it stays by NONE", Due.sides(x), "030");
        Due.due("its DAYS stay", x.wayDays(), 3);
        Due.due("wayAt(-1)", x.wayAt(-1), -1);
        Due.due("wayAt(3)", x.wayAt(3), -1);
        x.row(2, 1);
        Due.due("it is there", x.way(2, 2), 0);
        Due.due("no SIDES", Due.sides(x), "");
        Due.due("no DAYS", x.wayDays(), 0);
        x.days(2);
        Due.due("a SKIN", x.now(2), 1);
        Due.due("over the SKIN", x.way(0, 0), 2);
        Due.due("its SIDES", Due.sides(x), "00");
        Due.due("its DAYS", x.wayDays(), 1);
        PorridgeSea y = Due.made("sea 6 2;lump rock 5 0;boat cup 0 0 0 2;");
        y.row(0, 0);
        y.row(0, 0);
        Due.due("SPOONS left do not count", y.way(0, 0), 3);
        Due.due("all of them, today too", y.wayDays(), 2);
        Due.sea(y, "");
        Due.due("it stays by a new SEA", Due.sides(y), "000");
        PorridgeSea z = Due.made("sea 2 3;thick 0 1 3;thick 1 1 3;lump rock 0 2;boat cup 0 0 0 3;");
        Due.due("1 of 3 SPOONS is left unused", z.way(0, 0), 3);
        Due.due("its DAYS", z.wayDays(), 1);
        z.flour(0, 2, 3);
        Due.due("dearer", z.way(0, 0), 4);
        Due.due("its DAYS", z.wayDays(), 2);
    }

    private static void waysOfLikeCost() {
        PorridgeSea x = Due.made("lump rock 3 3;lump isle 0 0;lump mid 1 2;boat cup 0 0 0 9;boat mug 3 3 0 9;");
        Due.due("way(0, 0)", x.way(0, 0), 6);
        Due.due("east first", Due.sides(x), "000111");
        Due.due("way(1, 1)", x.way(1, 1), 6);
        Due.due("west first", Due.sides(x), "222333");
        Due.due("way(1, 2)", x.way(1, 2), 3);
        Due.due("west first", Due.sides(x), "223");
        PorridgeSea y = Due.made("sea 3 3;thick 1 0 6;lump rock 2 0;boat cup 0 0 0 9;");
        Due.due("as dear, fewer STEPS", y.way(0, 0), 4);
        Due.due("fewer STEPS", Due.sides(y), "00");
        y.flour(1, 0, 3);
        Due.due("round it", y.way(0, 0), 4);
        Due.due("round it", Due.sides(y), "1003");
        PorridgeSea wall = Due.made("sea 3 2;thick 1 0 9;thick 1 1 9;lump rock 2 0;boat cup 0 0 0 3;boat mug 0 0 0 4;");
        Due.due("none through the wall", wall.way(0, 0), -1);
        Due.due("ahead of any", wall.wayDays(), -1);
        Due.due("by 4 SPOONS", wall.way(1, 0), 5);
        Due.due("its DAYS", wall.wayDays(), 2);
    }

    private static void meetings() {
        PorridgeSea x = Due.made("sea 6 6;heat 0;lump rock 5 1;lump isle 0 1;lump far 3 3;boat cup 0 0 0 1;");
        Due.due("next to one another", x.meet(0, 1), 0);
        Due.due("no STIRS", Due.stirs(x), "");
        Due.due("over the rim, SKIN or not", x.meet(0, 0), 1);
        Due.due("its STIRS", Due.stirs(x), "001");
        Due.due("not by so few", x.meet(0, 2), -1);
        Due.due("it stays by NONE", Due.stirs(x), "001");
        Due.due("nothing was stirred", x.now(6), 0);
        Due.due("meetAt(0, 3)", x.meetAt(0, 3), -1);
        Due.due("meetAt(0, -1)", x.meetAt(0, -1), -1);
        Due.due("meetAt(-1, 0)", x.meetAt(-1, 0), -1);
        Due.due("meetAt(1, 0)", x.meetAt(1, 0), -1);
        Due.due("no such BOAT", x.meet(1, 0), -1);
        Due.due("no such BOAT", x.meet(-1, 0), -1);
        Due.due("no such LUMP", x.meet(0, 3), -1);
        Due.due("no such LUMP", x.meet(0, -1), -1);
        PorridgeSea y = Due.made("sea 6 6;lump rock 2 2;boat cup 0 0 0 1;");
        Due.due("three STIRS", y.meet(0, 0), 3);
        Due.due("rows ahead, the least, on ahead", Due.stirs(y), "000 110 010");
        Due.due("meetAt(1, 0)", y.meetAt(1, 0), 1);
        Due.due("meetAt(1, 1)", y.meetAt(1, 1), 1);
        Due.due("meetAt(1, 2)", y.meetAt(1, 2), 0);
        PorridgeSea four = Due.made("sea 6 6;lump rock 3 2;boat cup 0 0 0 1;");
        Due.due("four are too many", four.meet(0, 0), -1);
        Due.due("none ahead of any", four.meetAt(0, 0), -1);
        PorridgeSea z = Due.made("sea 6 6;lump rock 2 0;boat cup 2 0 0 1;");
        Due.due("in one cell", z.meet(0, 0), 0);
    }

    private static void sunkCells() {
        PorridgeSea x = Due.made(SEA);
        Due.due("none ahead of any", x.sunkAt(0), -1);
        Due.due("sunk 0 1, 1 0", Due.sunk(x, 0, 1, 1, 0), 2);
        Due.due("sunkAt(0)", x.sunkAt(0), 0);
        Due.due("sunkAt(1)", x.sunkAt(1), 13);
        Due.due("sunkAt(2)", x.sunkAt(2), -1);
        Due.due("sunkAt(-1)", x.sunkAt(-1), -1);
        Due.due("against itself", Due.sunk(x, 0, 1, 0, 0), 0);
        Due.due("it stays by 0", x.sunkAt(1), 13);
        int[][] none = {{}, {0}, {0, 1, 0}, {3, 0}, {0, 2}, {255, 0}, {0, 255}, {0, 1, 3, 1},
            {0, 1, 0, 1, 0, 1, 0, 1, 0, 1, 0, 1, 0, 1}};
        for (int[] pairs : none) {
            Due.due("not as told", Due.sunk(x, pairs), -1);
            Due.due("the tape is empty", x.count(6), 0);
            Due.due("it stays by NONE", x.sunkAt(0), 0);
        }
        Due.due("six pairs", Due.sunk(x, 0, 1, 1, 1, 2, 1, 0, 1, 1, 1, 2, 1), 4);
        int[] cells = {1, 2, 8, 12};
        for (int k = 0; k < 4; k++) {
            Due.due("sunkAt(" + k + ")", x.sunkAt(k), cells[k]);
        }
        x.days(3);
        Due.due("a SKIN holds all", Due.sunk(x, 1, 1), 9);
        Due.due("a SKIN", Due.sunk(x, 1, 0), 0);
        PorridgeSea y = Due.made("sea 2 2;cools 0;thick 1 1 4;boat cup 0 0 4 1;");
        y.days(3);
        Due.due("EATEN", y.now(3), 1);
        Due.due("EATEN ones, too", Due.sunk(y, 0, 1), 1);
        Due.due("sunkAt(0)", y.sunkAt(0), 7);
        Due.due("send() an EATEN one", y.send(), 0);
    }

    private static void boatToSend() {
        PorridgeSea x = Due.made("sea 2 2;thick 0 0 2;thick 1 0 4;thick 0 1 6;thick 1 1 8;"
                + "boat a 0 0 0 1;boat b 0 0 8 1;boat c 0 0 5 1;boat d 0 0 6 1;boat e 0 0 9 1;");
        Due.due("ahead of any", x.send(), -1);
        Due.due("all cells", Due.sunk(x, 0, 1), 4);
        Due.due("halves", x.send(), 2);
        Due.due("three cells", Due.sunk(x, 1, 0), 3);
        Due.due("2 of 3", x.send(), 2);
        Due.due("one cell", Due.sunk(x, 1, 1), 1);
        Due.due("of like ones the first", x.send(), 0);
        Due.due("no cell", Due.sunk(x, 4, 1), 0);
        Due.due("it stays", x.send(), 0);
        Due.sunk(x, 2, 0);
        Due.due("two cells, none parts them", x.send(), 0);
        Due.sunk(x, 2, 1);
        Due.due("two cells, parted", x.send(), 1);
        x.flour(0, 1, 9);
        PorridgeSea wide = Due.made("sea 6 6;boat a 0 0 0 1;");
        Due.due("36 cells", Due.sunk(wide, 0, 1), 36);
        Due.due("all are left", wide.send(), 0);
        Due.due("as it was then", x.send(), 1);
        Due.due("the cells, too", x.sunkAt(0), 6);
    }

    private static void lands() {
        PorridgeSea x = Due.made("lump a 0 0;lump b 3 0;lump c 1 0;lump d 1 1;lump e 2 2;lump f 3 1;");
        int[] lands = {13, 34, 13, 13, 16, 34};
        for (int l = 0; l < 6; l++) {
            Due.due("land(" + l + ")", x.land(l), lands[l]);
        }
        Due.due("land(6)", x.land(6), -1);
        Due.due("land(-1)", x.land(-1), -1);
        x.stir(0, 2, 1);
        Due.due("one land now", x.land(4), 29);
        PorridgeSea chain = Due.made("sea 6 2;lump f 5 0;lump d 3 0;lump b 1 0;lump a 0 0;lump c 2 0;lump e 4 0;");
        Due.due("a chain", chain.land(0), 63);
        PorridgeSea rim = Due.made("lump a 0 0;lump b 3 0;");
        Due.due("not over the rim", rim.land(0), 1);
    }

    private static void means() {
        PorridgeSea x = Due.made("sea 6 3;thick 0 0 9;thick 1 0 3;thick 5 0 2;thick 2 1 9;thick 3 1 9;thick 4 1 7;");
        Due.due("14 by 6", x.mean(0, 0), 7);
        Due.due("14 by 6", x.mean(0, 1), 3);
        Due.due("25 by 6", x.mean(1, 0), 25);
        Due.due("25 by 6", x.mean(1, 1), 6);
        Due.due("0", x.mean(2, 0), 0);
        Due.due("0", x.mean(2, 1), 1);
        x.milk(4, 1, 1);
        Due.due("24 by 6", x.mean(1, 0), 4);
        Due.due("24 by 6", x.mean(1, 1), 1);
        x.flour(0, 1, 1);
        x.flour(0, 2, 1);
        Due.due("14 by 6 still", x.mean(0, 0), 7);
        Due.due("25 by 6", x.mean(1, 0), 25);
        Due.meanThrows(x, 3, 0);
        Due.meanThrows(x, -1, 0);
        Due.meanThrows(x, 0, 2);
        Due.meanThrows(x, 0, -1);
    }

    private static void fleets() {
        PorridgeSea x = Due.made("cools 0;boat a 0 0 2 1;boat b 0 0 3 1;boat c 0 0 9 1;boat d 0 0 3 1;lump r 1 1;");
        Due.due("ahead of any", x.fleets(), -1);
        Due.due("fleet(1)", x.fleet(1), 1);
        Due.due("the least as bits", x.fleets(), 1);
        Due.due("fleet(3)", x.fleet(3), 1);
        Due.due("the least as bits", x.fleets(), 2);
        Due.due("fleet(10)", x.fleet(10), 2);
        Due.due("the least as bits", x.fleets(), 5);
        Due.due("fleet(17)", x.fleet(17), 4);
        Due.due("all", x.fleets(), 15);
        Due.due("fleet(18)", x.fleet(18), -1);
        Due.due("it stays by NONE", x.fleets(), 15);
        Due.due("fleet(0)", x.fleet(0), -1);
        Due.due("fleet(55)", x.fleet(55), -1);
        Due.due("fleet(-1)", x.fleet(-1), -1);
        x.flour(0, 0, 3);
        x.days(3);
        Due.due("c is EATEN", x.now(3), 4);
        Due.due("fleet(5)", x.fleet(5), 2);
        Due.due("without c", x.fleets(), 3);
        Due.due("fleet(9)", x.fleet(9), -1);
        PorridgeSea y = Due.made("boat a 0 0 9 1;boat b 0 0 9 1;boat c 0 0 9 1;boat d 0 0 9 1;boat e 0 0 9 1;boat f 0 0 9 1;");
        Due.due("fleet(54)", y.fleet(54), 6);
        Due.due("fleets()", y.fleets(), 63);
        Due.due("without LOADS", Due.made("boat a 0 0 0 1;").fleet(1), -1);
    }

    private static void charts() {
        PorridgeSea x = Due.made("cools 0;boat abcdefg 3 2 1 1;boat z 0 0 0 1;");
        Due.due("CHART", Due.chart(x, 0), "abcdefg at 3 2");
        Due.due("CHART", Due.chart(x, 1), "z at 0 0");
        Due.due("byteAt(-1)", x.byteAt(-1), -1);
        Due.due("byteAt(8)", x.byteAt(8), -1);
        Due.due("no such BOAT", x.chart(2), -1);
        Due.due("no such BOAT", x.chart(-1), -1);
        Due.due("the latest CHART stays", x.byteAt(0), 'z');
        x.days(1);
        Due.due("CHART", Due.chart(x, 0), "abcdefg at 3 2 sinks 1");
        Due.due("how many bytes", x.chart(0), 22);
        x.days(2);
        Due.due("the latest CHART is as it was", x.byteAt(21), '1');
        Due.due("CHART", Due.chart(x, 0), "abcdefg eaten");
        Due.due("byteAt(13)", x.byteAt(13), -1);
    }

    /** The same DAYS, each act by its own call. */
    private static int drawnByHand(PorridgeSea x, int n, int seed) {
        int drawn = seed;
        int gone = 0;
        for (int day = 0; day < n && x.now(0) < 400; day++) {
            drawn = next(drawn);
            if (of(drawn, 3) == 0) {
                drawn = next(drawn);
                int column = of(drawn, 2);
                drawn = next(drawn);
                int which = of(drawn, column == 0 ? x.count(1) : x.count(0));
                drawn = next(drawn);
                x.stir(column, which, of(drawn, 2));
            }
            for (int b = 0; b < x.count(3); b++) {
                if (x.boat(b, 6) == 0) {
                    drawn = next(drawn);
                    x.row(b, of(drawn, 5));
                }
            }
            gone += x.days(1);
        }
        return gone;
    }

    private static int next(int seed) {
        return seed * 1103515245 + 12345;
    }

    private static int of(int seed, int n) {
        return (seed >>> 8) % n;
    }

    private static final String FLOTILLA = "sea 5 3;heat 25;cools 1;skin 4;thick 0 0 5;thick 2 2 9;thick 4 1 3;"
            + "thick 3 1 7;thick 1 1 2;lump rock 4 0;lump isle 2 1;boat a 0 0 4 3;boat b 1 1 2 2;boat c 2 2 8 5;"
            + "boat d 3 1 6 1;boat e 4 2 0 9;boat f 0 2 9 4;";

    private static void drawnDays() {
        for (int seed = -40; seed < 40; seed++) {
            int wide = seed * 54321987;
            PorridgeSea x = Due.made(FLOTILLA);
            PorridgeSea y = Due.made(FLOTILLA);
            Due.due("drawn(25, " + wide + ")", x.drawn(25, wide), drawnByHand(y, 25, wide));
            Due.due("the SEA drawn by " + wide, Due.state(x), Due.state(y));
        }
        PorridgeSea x = Due.made("cools 0;boat a 0 0 0 1;");
        Due.due("drawn(0, 1)", x.drawn(0, 1), -1);
        Due.due("drawn(61, 1)", x.drawn(61, 1), -1);
        Due.due("drawn(60, 1)", x.drawn(60, 1), 60);
        for (int i = 0; i < 5; i++) {
            x.days(60);
        }
        x.days(39);
        Due.due("drawn(5, 1) at 399", x.drawn(5, 1), 1);
        Due.due("DAY", x.now(0), 400);
        Due.due("drawn(5, 1) at 400", x.drawn(5, 1), 0);
    }

    /** Whether a BOAT is EATEN behind n DAYS. */
    private static int drawnTo(int b, int n, int seed) {
        PorridgeSea x = Due.made(FLOTILLA);
        x.drawn(n, seed);
        return x.boat(b, 6);
    }

    private static void oddsOfABoat() {
        int between = 0;
        for (int b = 0; b < 6; b++) {
            int eaten = 0;
            for (int i = 0; i < 30; i++) {
                PorridgeSea y = Due.made(FLOTILLA);
                y.drawn(20, 5000 + i);
                eaten += y.boat(b, 6);
            }
            PorridgeSea x = Due.made(FLOTILLA);
            String before = Due.state(x);
            Due.due("odds(" + b + ", 30, 5000)", x.odds(b, 30, 5000), eaten);
            Due.due("all stays", Due.state(x), before);
            Due.due("nothing to undo", x.undo(), -1);
            between += eaten > 0 && eaten < 30 ? 1 : 0;
        }
        Due.due("some BOATS are EATEN by some seeds", between > 0, true);
        PorridgeSea x = Due.made(FLOTILLA);
        Due.due("no such BOAT", x.odds(6, 1, 1), -1);
        Due.due("no such BOAT", x.odds(-1, 1, 1), -1);
        Due.due("n of 0", x.odds(0, 0, 1), -1);
        Due.due("n of 31", x.odds(0, 31, 1), -1);
        Due.due("n of 1", x.odds(5, 1, 5000), drawnTo(5, 20, 5000));
        int parted = 0;
        for (int seed = 0; seed < 200; seed++) {
            int by20 = drawnTo(3, 20, seed);
            parted += by20 != drawnTo(3, 21, seed) || by20 != drawnTo(3, 19, seed) ? 1 : 0;
            Due.due("odds by one seed", x.odds(3, 1, seed), by20);
        }
        Due.due("a DAY more or less would tell", parted > 0, true);
        PorridgeSea y = Due.made("cools 0;boat a 0 0 9 1;");
        Due.due("all of them", y.odds(0, 7, Integer.MAX_VALUE), 7);
        y.days(3);
        Due.due("EATEN now", y.odds(0, 30, 1), 30);
    }
}

/** Questions, charts and draws at their edges: the part marked 3, promises 19 to 34. */
final class QuestionEdgeTest {
    private QuestionEdgeTest() {
    }

    public static void main(String[] args) {
        noSuchWay();
        aWayOfNoSteps();
        waysOfLikeCost();
        aWayByAllSpoons();
        theLongestWay();
        notOverTheRim();
        daysOfAWay();
        theLatestWay();
        noSuchMeeting();
        meetingsByThreeAtMost();
        meetingsOverTheRim();
        meetingsUnderASkin();
        theLatestMeeting();
        pairsOfBytes();
        pairsOfBoats();
        cellsOfTheRim();
        theLatestCells();
        sending();
        noSuchLand();
        landsByNeighbours();
        noSuchMean();
        meansInLeastTerms();
        fleetsFromOneToAll();
        theLatestFleet();
        noSuchChart();
        chartsOfEveryLength();
        noSuchDraws();
        drawsOfEverySeed();
        noSuchOdds();
        oddsAroundTheSeeds();
        oddsByTheLastDays();
        Due.close("QuestionEdgeTest");
    }

    private static void pass(PorridgeSea x, int n) {
        for (int left = n; left > 0; left -= 60) {
            x.days(Math.min(60, left));
        }
    }

    /** Promise 19: "NONE: there is none, it is EATEN, no such ones" */
    private static void noSuchWay() {
        PorridgeSea x = Due.made("cools 0;lump a 1 1;lump b 2 2;boat c 0 0 0 9;boat d 0 0 1 9;");
        x.days(3);
        for (int b = -2; b < 8; b++) {
            for (int l = -2; l < 8; l++) {
                boolean is = b == 0 && (l == 0 || l == 1);
                Due.due("way(" + b + ", " + l + ")", x.way(b, l), is ? 2 * l + 2 : -1);
                Due.due("meet(" + b + ", " + l + ")", x.meet(b, l), is ? 2 * l + 1 : -1);
            }
        }
        for (int far : Due.FAR) {
            Due.due("way(" + far + ", 0)", x.way(far, 0), -1);
            Due.due("way(0, " + far + ")", x.way(0, far), -1);
            Due.due("meet(" + far + ", 0)", x.meet(far, 0), -1);
            Due.due("meet(0, " + far + ")", x.meet(0, far), -1);
        }
        Due.due("without LUMPS", Due.made("boat c 0 0 0 9;").way(0, 0), -1);
        Due.due("without BOATS", Due.made("lump a 0 0;").way(0, 0), -1);
        PorridgeSea there = Due.made("cools 0;boat d 0 0 1 9;lump a 1 0;");
        there.days(3);
        there.stir(0, 0, 1);
        Due.due("the LUMP is where it was EATEN", there.way(0, 0), -1);
        Due.due("the LUMP is where it was EATEN", there.meet(0, 0), -1);
    }

    /** "(0: it is there)" */
    private static void aWayOfNoSteps() {
        PorridgeSea x = Due.made("thick 3 3 9;lump a 3 3;boat c 3 3 0 1;");
        Due.due("ahead of any", x.wayDays(), -1);
        Due.due("ahead of any", x.wayAt(0), -1);
        Due.due("it is there", x.way(0, 0), 0);
        Due.due("DAYS", x.wayDays(), 0);
        Due.due("no STEP", x.wayAt(0), -1);
    }

    /** "of like ones the fewest STEPS; then the first: STEP by STEP the least SIDE" */
    private static void waysOfLikeCost() {
        String[] texts = {"sea 3 3;thick 0 1 %;lump r 0 2;boat c 0 0 0 9;", "sea 3 3;thick 1 2 %;lump r 0 2;boat c 2 2 0 9;",
            "sea 3 3;thick 2 1 %;lump r 2 0;boat c 2 2 0 9;", "sea 3 3;thick 1 0 %;lump r 2 0;boat c 0 0 0 9;"};
        String[] shorter = {"11", "22", "33", "00"};
        String[] longer = {"0112", "3221", "2330", "1003"};
        for (int i = 0; i < texts.length; i++) {
            for (int thick = 1; thick <= 9; thick++) {
                PorridgeSea x = Due.made(texts[i].replace("%", "" + thick));
                Due.due("way " + i + " by " + thick, x.way(0, 0), Math.min(4, 2 + thick / 3));
                Due.due("its SIDES", Due.sides(x), thick < 9 ? shorter[i] : longer[i]);
            }
        }
        PorridgeSea x = Due.made("sea 3 3;thick 1 1 9;lump a 2 2;lump b 0 0;lump c 0 2;lump d 2 0;"
                + "boat e 0 0 0 9;boat f 2 2 0 9;boat g 2 0 0 9;boat h 0 2 0 9;");
        String[] sides = {"0011", "2233", "1122", "0033"};
        for (int b = 0; b < 4; b++) {
            Due.due("round the middle", x.way(b, b), 4);
            Due.due("the least SIDE first", Due.sides(x), sides[b]);
        }
    }

    /** "none of them more than all its SPOONS": just as many do, one fewer do not. */
    private static void aWayByAllSpoons() {
        for (int thick = 0; thick <= 9; thick++) {
            for (int spoons = 1; spoons <= 9; spoons++) {
                StringBuilder text = new StringBuilder("sea 3 2;lump a 2 0;boat c 0 0 0 " + spoons + ";");
                if (thick > 0) {
                    text.append("thick 1 0 " + thick + ";thick 1 1 " + thick + ";");
                }
                PorridgeSea x = Due.made(text.toString());
                int cost = 1 + thick / 3;
                Due.due("way by " + spoons + " over " + thick, x.way(0, 0), cost <= spoons ? cost + 1 : -1);
                Due.due("its SIDES", Due.sides(x), cost <= spoons ? "00" : "");
                Due.due("its DAYS", x.wayDays(), cost > spoons ? -1 : cost + 1 <= spoons ? 1 : 2);
                for (int i = 0; i < spoons; i++) {
                    x.row(0, i % 2 == 0 ? 1 : 3);
                }
                if (spoons % 2 == 0) {
                    Due.due("with no SPOONS left today", x.way(0, 0), cost <= spoons ? cost + 1 : -1);
                    Due.due("its DAYS", x.wayDays(), cost > spoons ? -1 : cost + 1 <= spoons ? 1 : 2);
                }
            }
        }
        PorridgeSea goal = Due.made("sea 2 2;thick 1 0 9;lump a 1 0;boat c 0 0 0 3;boat d 0 0 0 4;");
        Due.due("the LUMP's cell counts", goal.way(0, 0), -1);
        Due.due("the LUMP's cell counts", goal.way(1, 0), 4);
        PorridgeSea from = Due.made("sea 2 2;thick 0 0 9;lump a 1 0;boat c 0 0 0 1;");
        Due.due("its own cell does not", from.way(0, 0), 1);
        PorridgeSea cold = Due.made("sea 2 2;heat 3;thick 1 0 9;lump a 1 0;boat c 0 0 0 1;");
        Due.due("over a SKIN", cold.way(0, 0), 1);
    }

    /** A way that winds through all the rows, with one SPOON a DAY. */
    private static void theLongestWay() {
        StringBuilder text = new StringBuilder("sea 6 6;lump a 5 5;boat c 0 0 0 1;boat d 0 0 0 9;");
        for (int i = 0; i < 5; i++) {
            text.append("thick " + i + " 1 9;thick " + (i + 1) + " 3 9;thick " + i + " 5 9;");
        }
        PorridgeSea x = Due.made(text.toString());
        Due.due("SPOONS in all", x.way(0, 0), 20);
        Due.due("its SIDES", Due.sides(x), "00000112222211000001");
        Due.due("a DAY each", x.wayDays(), 20);
        Due.due("the last", x.wayAt(19), 1);
        Due.due("behind the last", x.wayAt(20), -1);
        Due.due("through the walls", x.way(1, 0), 13);
        Due.due("its SIDES", Due.sides(x), "0000011111");
        for (int far : Due.FAR) {
            Due.due("wayAt(" + far + ")", x.wayAt(far), -1);
        }
        Due.due("wayAt(-1)", x.wayAt(-1), -1);
        for (int k = 10; k < 40; k++) {
            Due.due("wayAt(" + k + ")", x.wayAt(k), -1);
        }
    }

    /** "Cells are next to one another by X or Y, 1 off (not over the rim)." */
    private static void notOverTheRim() {
        for (int wide = 2; wide <= 6; wide++) {
            for (int high = 2; high <= 6; high++) {
                int east = wide - 1;
                int south = high - 1;
                PorridgeSea x = Due.made("sea " + wide + " " + high + ";lump a 0 0;lump b " + east + " " + south
                        + ";boat c " + east + " " + south + " 0 9;boat d 0 0 0 9;boat e 0 " + south + " 0 9;");
                Due.due("corner to corner", x.way(0, 0), east + south);
                Due.due("its SIDES", Due.sides(x), "2".repeat(east) + "3".repeat(south));
                Due.due("corner to corner", x.way(1, 1), east + south);
                Due.due("its SIDES", Due.sides(x), "0".repeat(east) + "1".repeat(south));
                Due.due("along the rim", x.way(2, 0), south);
                Due.due("along the rim", x.way(2, 1), east);
                Due.due("corners are no land", x.land(0), 1);
                Due.sentence(x, "by a");
                Due.due("by a: over the rim", x.said(-1), 1 + (south == 1 ? 1 : 0));
            }
        }
    }

    /** "STEPS are made one behind the other as long as SPOONS (all of them each DAY, today too) suffice" */
    private static void daysOfAWay() {
        for (int spoons = 1; spoons <= 9; spoons++) {
            PorridgeSea x = Due.made("sea 6 6;lump a 5 5;boat c 0 0 0 " + spoons + ";");
            Due.due("ten STEPS", x.way(0, 0), 10);
            Due.due("DAYS by " + spoons, x.wayDays(), (10 + spoons - 1) / spoons);
        }
        StringBuilder text = new StringBuilder("sea 6 2;lump a 5 0;");
        int[] thick = {3, 6, 3, 9, 3};
        for (int i = 0; i < 5; i++) {
            text.append("thick " + (i + 1) + " 0 " + thick[i] + ";thick " + (i + 1) + " 1 9;");
        }
        int[] days = {-1, -1, -1, 5, 4, 3, 2, 2, 2};
        for (int spoons = 1; spoons <= 9; spoons++) {
            PorridgeSea x = Due.made(text + "boat c 0 0 0 " + spoons + ";");
            Due.due("2 3 2 4 2 by " + spoons, x.way(0, 0), spoons < 4 ? -1 : 13);
            Due.due("DAYS", x.wayDays(), days[spoons - 1]);
        }
    }

    /** Promises 20, 21: "by the latest way() that was not NONE" */
    private static void theLatestWay() {
        PorridgeSea x = Due.made("lump a 3 0;lump b 0 0;boat c 0 0 0 2;");
        Due.due("way", x.way(0, 0), 3);
        x.way(0, 2);
        x.way(1, 0);
        Due.due("NONE leaves it", Due.sides(x), "000");
        x.row(0, 1);
        x.days(5);
        x.stir(0, 0, 0);
        Due.due("acts leave it", Due.sides(x), "000");
        Due.due("acts leave it", x.wayDays(), 2);
        x.undo();
        Due.sea(x, "");
        Due.due("a new SEA leaves it", Due.sides(x), "000");
        Due.sea(x, "lump b 0 0;boat c 0 0 0 2;");
        Due.due("it is there", x.way(0, 0), 0);
        Due.due("the new one", Due.sides(x), "");
        Due.due("the new one", x.wayDays(), 0);
    }

    /** Promise 23: "NONE: no such ones, or ahead of any" */
    private static void noSuchMeeting() {
        PorridgeSea x = Due.made("sea 6 6;lump a 2 2;lump b 0 1;boat c 0 0 0 1;");
        for (int k = -1; k < 4; k++) {
            for (int what = -1; what < 4; what++) {
                Due.due("ahead of any", x.meetAt(k, what), -1);
            }
        }
        Due.due("meet", x.meet(0, 0), 3);
        int[][] stirs = {{0, 0, 0}, {1, 1, 0}, {0, 1, 0}};
        for (int k = -2; k < 6; k++) {
            for (int what = -2; what < 6; what++) {
                boolean is = k >= 0 && k < 3 && what >= 0 && what < 3;
                Due.due("meetAt(" + k + ", " + what + ")", x.meetAt(k, what), is ? stirs[k][what] : -1);
            }
        }
        for (int far : Due.FAR) {
            Due.due("meetAt(" + far + ", 0)", x.meetAt(far, 0), -1);
            Due.due("meetAt(0, " + far + ")", x.meetAt(0, far), -1);
        }
        Due.due("next to it", x.meet(0, 1), 0);
        Due.due("no STIR", x.meetAt(0, 0), -1);
    }

    /** "the fewest STIRS (3 at most) behind which they are in one cell, or in cells next to one another" */
    private static void meetingsByThreeAtMost() {
        // In one line they go together: the BOAT must leave it first.
        String[] fewest = {"003.31", "012321", "323.32", ".3...3", "323.32", "112322"};
        for (int row = 0; row < 6; row++) {
            for (int column = 0; column < 6; column++) {
                int want = fewest[row].charAt(column) == '.' ? -1 : fewest[row].charAt(column) - '0';
                PorridgeSea x = Due.made("sea 6 6;boat c 0 0 0 1;lump a " + column + " " + row + ";");
                Due.due("meet at " + column + " " + row, x.meet(0, 0), want);
                Due.due("how many STIRS", (Due.stirs(x).length() + 1) / 4, Math.max(0, want));
            }
        }
        Due.due("in one cell", Due.made("boat c 1 1 0 1;lump a 1 1;").meet(0, 0), 0);
        Due.due("in the corner", Due.made("sea 2 2;boat c 0 0 0 1;lump a 1 1;").meet(0, 0), 1);
        Due.due("three", Due.made("sea 6 6;boat c 0 0 0 1;lump a 2 2;").meet(0, 0), 3);
        Due.due("four", Due.made("sea 6 6;boat c 0 0 0 1;lump a 3 2;").meet(0, 0), -1);
    }

    /** "rows ahead of columns, then the least N, then on ahead of back", each of them over the rim, too. */
    private static void meetingsOverTheRim() {
        String[] texts = {"sea 6 6;boat c 0 0 0 1;lump a 5 0;", "sea 6 6;boat c 0 0 0 1;lump a 0 5;",
            "sea 6 6;boat c 5 5 0 1;lump a 0 5;", "sea 6 6;boat c 5 5 0 1;lump a 5 0;",
            "sea 6 6;boat c 0 0 0 1;lump a 5 1;", "sea 6 6;boat c 0 0 0 1;lump a 1 5;",
            "sea 2 2;boat c 0 0 0 1;lump a 1 1;", "sea 6 6;boat c 5 0 0 1;lump a 0 1;"};
        String[] stirs = {"000", "100", "050", "150", "001", "101", "000", "000"};
        for (int i = 0; i < texts.length; i++) {
            PorridgeSea x = Due.made(texts[i]);
            Due.due(texts[i], x.meet(0, 0), 1);
            Due.due("its STIRS", Due.stirs(x), stirs[i]);
        }
        PorridgeSea wide = Due.made("sea 6 2;boat c 1 1 0 1;lump a 3 0;");
        Due.due("one row or the other", wide.meet(0, 0), 2);
        Due.due("row 0 ahead of row 1, back twice", Due.stirs(wide), "001 001");
        PorridgeSea high = Due.made("sea 2 6;boat c 1 1 0 1;lump a 0 3;");
        Due.due("a column, then a row", high.meet(0, 0), 2);
        Due.due("no row is first", Due.stirs(high), "101 010");
    }

    /** Promise 22: "(SKIN or not)" */
    private static void meetingsUnderASkin() {
        PorridgeSea cold = Due.made("heat 0;sea 6 6;boat c 0 0 0 1;lump a 2 2;");
        Due.due("under a SKIN", cold.meet(0, 0), 3);
        Due.due("nothing is stirred", cold.now(6), 0);
        Due.due("nothing to undo", cold.undo(), -1);
        Due.due("where it was", cold.boat(0, 0) + cold.boat(0, 1), 0);
        Due.due("where it was", cold.lump(0, 0) + cold.lump(0, 1), 4);
    }

    private static void theLatestMeeting() {
        PorridgeSea x = Due.made("sea 6 6;boat c 0 0 0 1;lump a 2 2;lump b 3 3;");
        x.meet(0, 0);
        Due.due("not by so few", x.meet(0, 1), -1);
        x.meet(0, 2);
        x.meet(1, 0);
        Due.due("NONE leaves it", Due.stirs(x), "000 110 010");
        x.stir(0, 0, 0);
        x.days(1);
        Due.due("acts leave it", Due.stirs(x), "000 110 010");
        Due.sea(x, "boat c 0 0 0 1;lump a 1 1;");
        Due.due("a new SEA leaves it", Due.stirs(x), "000 110 010");
        Due.due("the new one", x.meet(0, 0), 1);
        Due.due("the new one", Due.stirs(x), "000");
    }

    /** "pairs of bytes: .. 1 it would be AFLOAT, 0 not; 1 to 6 of them"; promise 24: "NONE: not as told" */
    private static void pairsOfBytes() {
        PorridgeSea x = Due.made("sea 3 3;boat c 0 0 0 1;");
        for (int bytes = 0; bytes <= 940; bytes++) {
            if (bytes < 20 || bytes > 930 || bytes % 64 < 2) {
                int[] pairs = new int[bytes];
                for (int i = 1; i < bytes; i += 2) {
                    pairs[i] = 1;
                }
                boolean told = bytes >= 2 && bytes <= 12 && bytes % 2 == 0;
                Due.due(bytes + " bytes", Due.sunk(x, pairs), told ? 9 : -1);
                Due.due("the tape is empty", x.count(6), 0);
            }
        }
        for (int value = 0; value < 256; value++) {
            Due.due("said of it: " + value, Due.sunk(x, 0, value), value == 0 ? 0 : value == 1 ? 9 : -1);
            Due.due("in the last pair", Due.sunk(x, 0, 1, 0, 1, 0, 1, 0, 1, 0, 1, 0, value),
                    value == 0 ? 0 : value == 1 ? 9 : -1);
        }
    }

    private static void pairsOfBoats() {
        String text = "sea 3 3;";
        for (int boats = 0; boats <= 6; boats++) {
            PorridgeSea x = Due.made(text);
            for (int b = 0; b < 256; b++) {
                Due.due("BOAT " + b + " of " + boats, Due.sunk(x, b, 1), b < boats ? 9 : -1);
                if (boats > 0) {
                    Due.due("in the second pair", Due.sunk(x, 0, 1, b, 1), b < boats ? 9 : -1);
                }
            }
            text += "boat " + (char) ('a' + boats) + " 0 0 0 1;";
        }
    }

    /** "as all is now" and "EATEN ones, too, by their LOAD", in cells up to the rim. */
    private static void cellsOfTheRim() {
        for (int wide = 2; wide <= 6; wide++) {
            for (int high = 2; high <= 6; high++) {
                int last = 6 * (high - 1) + wide - 1;
                PorridgeSea x = Due.made("sea " + wide + " " + high + ";cools 0;lump a 0 0;thick " + (wide - 1) + " "
                        + (high - 1) + " 5;boat c 1 0 5 1;boat d 1 0 6 1;");
                for (int i = 0; i < 2; i++) {
                    Due.due("where 5 float", Due.sunk(x, 0, 1), 2);
                    Due.due("the first", x.sunkAt(0), 0);
                    Due.due("the last", x.sunkAt(1), last);
                    Due.due("where 5 float and 6 do not", Due.sunk(x, 0, 1, 1, 0), 1);
                    Due.due("the last", x.sunkAt(0), last);
                    Due.due("where none float", Due.sunk(x, 0, 0, 1, 0), wide * high - 2);
                    Due.due("the first", x.sunkAt(0), 1);
                    x.days(3);
                    Due.due("EATEN", x.now(3), 3);
                }
            }
        }
        PorridgeSea all = Due.made("sea 6 6;boat c 0 0 0 1;");
        Due.due("all cells", Due.sunk(all, 0, 1), 36);
        for (int k = -2; k < 40; k++) {
            Due.due("sunkAt(" + k + ")", all.sunkAt(k), k >= 0 && k < 36 ? k : -1);
        }
        for (int far : Due.FAR) {
            Due.due("sunkAt(" + far + ")", all.sunkAt(far), -1);
        }
        PorridgeSea cold = Due.made("heat 4;boat c 0 0 9 1;");
        Due.due("no SKIN yet", Due.sunk(cold, 0, 1), 0);
        cold.days(1);
        Due.due("a SKIN", Due.sunk(cold, 0, 1), 16);
        Due.due("by Y, then by X", cold.sunkAt(4), 6);
        cold.stove(1);
        cold.flour(3, 3, 8);
        Due.due("8 for 9", Due.sunk(cold, 0, 1), 0);
        cold.flour(3, 3, 1);
        Due.due("9 for 9", Due.sunk(cold, 0, 1), 1);
        Due.due("6 by Y and X", cold.sunkAt(0), 21);
    }

    /** Promise 25: "by the latest sunk() above 0 .. NONE: none such, or ahead of any" */
    private static void theLatestCells() {
        PorridgeSea x = Due.made("thick 1 1 1;boat c 0 0 1 1;boat d 0 0 2 1;");
        Due.due("ahead of any", x.sunkAt(0), -1);
        Due.due("ahead of any", x.send(), -1);
        Due.due("none", Due.sunk(x, 1, 1), 0);
        Due.due("ahead of any above 0", x.sunkAt(0), -1);
        Due.due("ahead of any above 0", x.send(), -1);
        Due.due("not as told", Due.sunk(x, 2, 1), -1);
        Due.due("ahead of any above 0", x.send(), -1);
        Due.due("one", Due.sunk(x, 0, 1), 1);
        Due.due("sunkAt(0)", x.sunkAt(0), 7);
        Due.due("none", Due.sunk(x, 1, 1), 0);
        Due.due("not as told", Due.sunk(x, 1, 2), -1);
        Due.due("it stays", x.sunkAt(0), 7);
        Due.due("it stays", x.sunkAt(1), -1);
        x.flour(0, 0, 9);
        x.stir(1, 1, 0);
        Due.due("acts leave it", x.sunkAt(0), 7);
        Due.sea(x, "");
        Due.due("a new SEA leaves it", x.sunkAt(0), 7);
        Due.due("a new SEA leaves it", x.send(), 0);
    }

    /** Promise 26: "(as it was then)", "of like ones the first" */
    private static void sending() {
        StringBuilder text = new StringBuilder("sea 5 2;");
        for (int i = 1; i < 10; i++) {
            text.append("thick " + i % 5 + " " + i / 5 + " " + i + ";");
        }
        // Of cells 0 to 9 thick a LOAD of n floats in 10 - n.
        int[][] loads = {{0, 4, 6, 5, 9, 5}, {0, 9, 8, 2, 1, 7}, {6, 4, 3, 0, 9, 9}, {9, 1, 0, 0, 0, 0}};
        int[] best = {3, 5, 0, 0};
        for (int i = 0; i < loads.length; i++) {
            StringBuilder boats = new StringBuilder(text);
            for (int b = 0; b < 6; b++) {
                boats.append("boat " + (char) ('a' + b) + " 0 0 " + loads[i][b] + " 1;");
            }
            PorridgeSea x = Due.made(boats.toString());
            int without = loads[i][0] == 0 ? 0 : loads[i][3] == 0 ? 3 : 2;
            Due.due("all cells", Due.sunk(x, without, 1), 10);
            Due.due("send() " + i, x.send(), best[i]);
            x.milk(4, 1, 9);
            x.milk(3, 1, 9);
            x.milk(2, 1, 9);
            Due.due("as it was then", x.send(), best[i]);
            x.days(60);
            Due.due("as it was then", x.send(), best[i]);
        }
        PorridgeSea one = Due.made("boat a 0 0 5 1;");
        Due.due("no BOAT floats", Due.sunk(one, 0, 0), 16);
        Due.due("it alone", one.send(), 0);
        PorridgeSea late = Due.made("thick 0 0 3;boat a 0 0 9 1;boat b 0 0 9 1;boat c 0 0 9 1;boat d 0 0 9 1;"
                + "boat e 0 0 9 1;boat f 0 0 3 1;");
        Due.sunk(late, 0, 0);
        Due.due("the last of six", late.send(), 5);
    }

    /** Promise 27: "NONE: no such one" */
    private static void noSuchLand() {
        PorridgeSea x = Due.made("lump a 0 0;lump b 0 1;");
        for (int l = -2; l < 8; l++) {
            Due.due("land(" + l + ")", x.land(l), l == 0 || l == 1 ? 3 : -1);
        }
        for (int far : Due.FAR) {
            Due.due("land(" + far + ")", x.land(far), -1);
        }
        Due.due("without LUMPS", new PorridgeSea().land(0), -1);
    }

    private static void landsByNeighbours() {
        for (int cell = 0; cell < 36; cell++) {
            if (cell != 14) {
                PorridgeSea x = Due.made("sea 6 6;lump a 2 2;lump b " + cell % 6 + " " + cell / 6 + ";");
                boolean next = cell == 13 || cell == 15 || cell == 8 || cell == 20;
                Due.due("land by cell " + cell, x.land(0), next ? 3 : 1);
                Due.due("land by cell " + cell, x.land(1), next ? 3 : 2);
            }
        }
        PorridgeSea row = Due.made("sea 6 2;lump a 0 0;lump b 5 0;lump c 1 0;lump d 4 0;lump e 2 0;lump f 3 0;");
        for (int l = 0; l < 6; l++) {
            Due.due("all six", row.land(l), 63);
        }
        PorridgeSea parted = Due.made("sea 6 2;lump a 0 0;lump b 5 0;lump c 1 0;lump d 4 0;lump e 2 1;lump f 3 1;");
        int[] lands = {5, 10, 5, 10, 48, 48};
        for (int l = 0; l < 6; l++) {
            Due.due("three lands", parted.land(l), lands[l]);
        }
        PorridgeSea rows = Due.made("sea 6 6;lump a 5 0;lump b 0 1;");
        Due.due("not from a row's end to the next", rows.land(0), 1);
    }

    /** Promise 28: "NoSuchElementException: no such ones" */
    private static void noSuchMean() {
        for (int high = 2; high <= 6; high++) {
            PorridgeSea x = Due.made("sea 5 " + high + ";thick 0 0 9;thick 4 " + (high - 1) + " 3;");
            String before = Due.state(x);
            for (int y = -2; y < 9; y++) {
                for (int what = -2; what < 5; what++) {
                    if (y >= 0 && y < high && what >= 0 && what < 2) {
                        int above = y == 0 ? 9 : y == high - 1 ? 3 : 0;
                        Due.due("mean(" + y + ", " + what + ")", x.mean(y, what),
                                what == 0 ? above : above == 0 ? 1 : 5);
                    } else {
                        Due.meanThrows(x, y, what);
                    }
                }
            }
            for (int far : Due.FAR) {
                Due.meanThrows(x, far, 0);
                Due.meanThrows(x, 0, far);
            }
            Due.due("a call that throws changes nothing", Due.state(x), before);
        }
    }

    /** "All fractions are told by two numbers: 0 above, 1 below, in least terms." */
    private static void meansInLeastTerms() {
        for (int wide = 2; wide <= 6; wide++) {
            PorridgeSea x = Due.made("sea " + wide + " 2;");
            for (int sum = 0; sum <= 9 * wide; sum++) {
                int above = sum;
                int below = wide;
                for (int d = 2; d <= 6; d++) {
                    while (above % d == 0 && below % d == 0) {
                        above /= d;
                        below /= d;
                    }
                }
                Due.due(sum + " by " + wide + " above", x.mean(1, 0), above);
                Due.due(sum + " by " + wide + " below", x.mean(1, 1), below);
                x.flour(sum / 9, 1, 1);
            }
            Due.due("the other row", x.mean(0, 0), 0);
            Due.due("the other row", x.mean(0, 1), 1);
        }
    }

    /** Promise 29: "FLEET for n (1 to 54)"; "NONE: not by all, not as told" */
    private static void fleetsFromOneToAll() {
        String text = "cools 0;";
        for (int boats = 0; boats <= 6; boats++) {
            PorridgeSea x = Due.made(text);
            for (int n = -2; n <= 57; n++) {
                boolean is = n >= 1 && n <= 9 * boats;
                int many = (n + 8) / 9;
                Due.due("fleet(" + n + ") of " + boats, x.fleet(n), is ? many : -1);
                if (is) {
                    Due.due("the least as bits", x.fleets(), (1 << many) - 1);
                }
            }
            for (int far : Due.FAR) {
                Due.due("fleet(" + far + ")", x.fleet(far), -1);
            }
            text += "boat " + (char) ('a' + boats) + " 0 0 9 1;";
        }
        PorridgeSea x = Due.made("boat a 0 0 0 1;boat b 0 0 3 1;boat c 0 0 2 1;boat d 0 0 5 1;boat e 0 0 0 1;");
        int[] bits = {2, 2, 2, 8, 8, 10, 10, 10, 14, 14};
        for (int n = 1; n <= 10; n++) {
            Due.due("fleet(" + n + ")", x.fleet(n), Integer.bitCount(bits[n - 1]));
            Due.due("fleets() for " + n, x.fleets(), bits[n - 1]);
        }
        Due.due("one more than all LOADS", x.fleet(11), -1);
        Due.due("only LOADS of 0", Due.made("boat a 0 0 0 1;boat b 0 0 0 1;").fleet(1), -1);
    }

    /** Promise 30: "by the latest fleet() that was not NONE; NONE ahead of any" */
    private static void theLatestFleet() {
        PorridgeSea x = Due.made("cools 0;thick 1 1 9;boat a 0 0 9 1;boat b 1 1 5 1;");
        Due.due("ahead of any", x.fleets(), -1);
        x.fleet(0);
        x.fleet(15);
        Due.due("ahead of any", x.fleets(), -1);
        Due.due("fleet(14)", x.fleet(14), 2);
        Due.due("both", x.fleets(), 3);
        x.days(3);
        Due.due("fleet(14) behind", x.fleet(14), -1);
        Due.due("fleet(6) behind", x.fleet(6), -1);
        Due.due("it stays", x.fleets(), 3);
        Due.due("fleet(5)", x.fleet(5), 1);
        Due.due("not the EATEN one", x.fleets(), 2);
        Due.sea(x, "");
        Due.due("a new SEA leaves it", x.fleets(), 2);
    }

    /** Promises 31, 32: "NONE: no such one"; "NONE: none such" */
    private static void noSuchChart() {
        PorridgeSea x = Due.made("boat a 0 0 0 1;boat b 3 3 0 1;");
        Due.due("ahead of any", x.byteAt(0), -1);
        for (int b = -2; b < 8; b++) {
            Due.due("chart(" + b + ")", x.chart(b), b == 0 || b == 1 ? 8 : -1);
        }
        for (int far : Due.FAR) {
            Due.due("chart(" + far + ")", x.chart(far), -1);
            Due.due("byteAt(" + far + ")", x.byteAt(far), -1);
        }
        String latest = "b at 3 3";
        for (int i = -2; i < 40; i++) {
            Due.due("byteAt(" + i + ")", x.byteAt(i), i >= 0 && i < 8 ? latest.charAt(i) : -1);
        }
        x.row(1, 2);
        x.days(1);
        Due.sea(x, "");
        Due.due("it stays", x.byteAt(5), '3');
        Due.due("without BOATS", x.chart(0), -1);
        Due.due("it stays", x.byteAt(7), '3');
    }

    /** "and ' sinks ' and its DEPTH as a digit, if that is above 0" */
    private static void chartsOfEveryLength() {
        for (int n = 1; n <= 7; n++) {
            String name = "zyxwvut".substring(0, n);
            PorridgeSea x = Due.made("sea 6 6;cools 0;boat " + name + " 5 0 1 1;");
            String[] charts = {name + " at 5 0", name + " at 5 0 sinks 1", name + " at 5 0 sinks 2", name + " eaten",
                name + " eaten"};
            for (String chart : charts) {
                Due.due("how many bytes", x.chart(0), chart.length());
                Due.due("CHART", Due.chart(x, 0), chart);
                Due.due("behind the last byte", x.byteAt(chart.length()), -1);
                x.days(1);
            }
        }
        PorridgeSea x = Due.made("sea 6 6;cools 0;boat cup 0 5 1 1;");
        x.days(2);
        x.stir(0, 5, 1);
        Due.due("it went over the rim", Due.chart(x, 0), "cup at 5 5 sinks 2");
        x.flour(5, 5, 1);
        Due.due("AFLOAT, not risen yet", Due.chart(x, 0), "cup at 5 5 sinks 2");
        x.days(1);
        Due.due("risen", Due.chart(x, 0), "cup at 5 5");
    }

    /** Promise 33: "n (1 to 60) .. NONE: not as told" */
    private static void noSuchDraws() {
        for (int n = -2; n <= 63; n++) {
            PorridgeSea x = Due.made("heat 30;cools 0;");
            boolean told = n >= 1 && n <= 60;
            Due.due("drawn(" + n + ", 7)", x.drawn(n, 7), told ? n : -1);
            Due.due("the DAY", x.now(0), told ? n : 0);
            Due.due("undo", x.undo(), told ? 0 : -1);
        }
        PorridgeSea x = new PorridgeSea();
        for (int far : Due.FAR) {
            Due.due("drawn(" + far + ", 1)", x.drawn(far, 1), -1);
        }
    }

    private static int seed;

    private static int draw(int n) {
        seed = (int) ((long) seed * 1103515245L + 12345L);
        long bits = seed & 0xffffffffL;
        return (int) ((bits / 256) % n);
    }

    /** The DAYS by other calls, one draw behind the other. */
    private static void drawByHand(PorridgeSea x, int days) {
        for (int day = 0; day < days; day++) {
            if (draw(3) == 0) {
                int column = draw(2);
                int which = draw(column == 0 ? x.count(1) : x.count(0));
                x.stir(column, which, draw(2));
            }
            for (int b = 0; b < x.count(3); b++) {
                if (x.boat(b, 6) == 0) {
                    int side = draw(5);
                    if (side < 4) {
                        x.row(b, side);
                    }
                }
            }
            x.days(1);
        }
    }

    /** "x becomes x * 1103515245 + 12345 (an int, wrapping), the draw is (x >>> 8) % n" */
    private static void drawsOfEverySeed() {
        int[] seeds = {0, 1, -1, 12345, -12345, Integer.MAX_VALUE, Integer.MIN_VALUE, 0x7fffff00, 0x80000100};
        for (int wide = 2; wide <= 6; wide++) {
            for (int high = 2; high <= 6; high++) {
                String text = "sea " + wide + " " + high + ";heat 22;thick 1 1 9;thick 0 1 3;lump a 0 0;boat c 0 0 0 4;"
                        + "boat d 1 1 5 9;boat e 1 0 1 1;boat f 0 1 2 2;";
                for (int first : seeds) {
                    PorridgeSea x = Due.made(text);
                    PorridgeSea y = Due.made(text);
                    Due.due("drawn", x.drawn(30, first), 30);
                    seed = first;
                    drawByHand(y, 30);
                    Due.due("by " + first + " in " + wide + " by " + high, Due.state(x), Due.state(y));
                }
            }
        }
    }

    /** Promise 34: "n (1 to 30)"; "NONE: no such ones" */
    private static void noSuchOdds() {
        PorridgeSea x = Due.made("heat 30;cools 0;boat a 0 0 9 1;boat b 0 0 0 1;");
        for (int n = -2; n <= 33; n++) {
            boolean told = n >= 1 && n <= 30;
            Due.due("odds(0, " + n + ", 1)", x.odds(0, n, 1), told ? n : -1);
            Due.due("odds(1, " + n + ", 1)", x.odds(1, n, 1), told ? 0 : -1);
        }
        for (int b = -2; b < 8; b++) {
            Due.due("odds(" + b + ", 3, 1)", x.odds(b, 3, 1), b == 0 ? 3 : b == 1 ? 0 : -1);
        }
        for (int far : Due.FAR) {
            Due.due("odds(" + far + ", 1, 1)", x.odds(far, 1, 1), -1);
            Due.due("odds(0, " + far + ", 1)", x.odds(0, far, 1), -1);
        }
        Due.due("all stays", x.now(0), 0);
        Due.due("none is undone", x.undo(), -1);
    }

    private static final String FLOTILLA = "sea 5 4;heat 30;cools 0;skin 4;thick 0 0 5;thick 2 2 9;thick 4 1 3;"
            + "thick 3 1 7;thick 1 1 2;thick 4 3 4;lump rock 4 0;lump isle 2 1;boat a 0 0 4 3;boat b 1 1 2 2;"
            + "boat c 2 2 8 5;boat d 3 1 1 1;";

    private static int eatenBy(int b, int from, int day, int days) {
        PorridgeSea x = Due.made(FLOTILLA);
        pass(x, day);
        x.drawn(days, from);
        return x.boat(b, 6);
    }

    /** "seeds x, x and 1, .."; around the greatest int, too. */
    private static void oddsAroundTheSeeds() {
        int[] seeds = {0, -1, -15, 777, Integer.MAX_VALUE, Integer.MAX_VALUE - 14, Integer.MIN_VALUE};
        PorridgeSea x = Due.made(FLOTILLA);
        int eatenInAll = 0;
        for (int first : seeds) {
            for (int b = 0; b < 4; b++) {
                int eaten = 0;
                for (int n = 1; n <= 30; n++) {
                    eaten += eatenBy(b, first + n - 1, 0, 20);
                    Due.due("odds(" + b + ", " + n + ", " + first + ")", x.odds(b, n, first), eaten);
                }
                eatenInAll += eaten;
            }
        }
        Due.due("some are EATEN, some are not", eatenInAll > 0 && eatenInAll < 28 * 30, true);
    }

    /** "behind 20 DAYS DRAWN from now on": as many of them as are left. */
    private static void oddsByTheLastDays() {
        int parted = 0;
        for (int day = 376; day <= 400; day += 4) {
            PorridgeSea x = Due.made("heat 30;cools 0;boat a 0 0 1 1;thick 0 0 1;thick 1 0 1;thick 2 0 1;thick 0 1 1;"
                    + "thick 1 1 1;thick 2 1 1;thick 3 1 1;");
            pass(x, day);
            for (int first = 0; first < 25; first++) {
                int eaten = 0;
                int left = Math.min(20, 400 - day);
                if (left > 0) {
                    x.drawn(left, first);
                    eaten = x.boat(0, 6);
                    x.undo();
                }
                Due.due("odds(0, 1, " + first + ") at " + day, x.odds(0, 1, first), eaten);
                parted += eaten;
            }
        }
        Due.due("some are EATEN", parted > 0, true);
        PorridgeSea x = Due.made("heat 30;cools 0;boat a 0 0 9 1;");
        x.days(2);
        x.image(0);
        pass(x, 398);
        Due.due("EATEN on the last DAY", x.odds(0, 5, 1), 5);
        PorridgeSea two = Due.made("heat 30;cools 0;thick 0 0 9;boat a 0 0 9 1;");
        pass(two, 398);
        two.milk(0, 0, 9);
        Due.due("two DAYS do not suffice", two.odds(0, 30, 1), 0);
        two.undo();
        two.undo();
        pass(two, 37);
        two.milk(0, 0, 9);
        Due.due("three do", two.odds(0, 30, 1), 30);
    }
}

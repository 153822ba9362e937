/** Acts at their edges: the part marked 2, promises 10 to 18. */
final class ActEdgeTest {
    private static final int[] DX = {1, 0, -1, 0};
    private static final int[] DY = {0, 1, 0, -1};

    private ActEdgeTest() {
    }

    public static void main(String[] args) {
        aSkinByHeat();
        afloatByLoad();
        costOfAStep();
        stirringEverySize();
        whatIsNotStirred();
        noSuchLine();
        rowingFromEveryCell();
        rowingByTheLastSpoon();
        whyNotRowedTheLeast();
        flouring();
        milking();
        noSuchFlourOrMilk();
        warming();
        depthDayByDay();
        coolingToNothing();
        noSuchDays();
        theLastDay();
        actsBehindTheLastDay();
        eightAreKept();
        eachActIsUndone();
        refusedActsAreNotKept();
        whatUndoLeaves();
        daysToASkin();
        Due.close("ActEdgeTest");
    }

    private static void pass(PorridgeSea x, int n) {
        for (int left = n; left > 0; left -= 60) {
            x.days(Math.min(60, left));
        }
    }

    /** "There is a SKIN, if the heat is as 'skin' tells, or below." */
    private static void aSkinByHeat() {
        for (int heat = 0; heat <= 30; heat++) {
            for (int skin = 0; skin <= 30; skin++) {
                PorridgeSea x = Due.made("heat " + heat + ";skin " + skin + ";");
                int is = heat <= skin ? 1 : 0;
                Due.due("a SKIN at " + heat + " by " + skin, x.now(2), is);
                Due.due("stirred at " + heat + " by " + skin, x.stir(0, 0, 0), is);
                Due.due("STIRS so far", x.now(6), 1 - is);
            }
        }
    }

    /** "a LUMP is in its cell, or its cell is as thick as its LOAD, at least" */
    private static void afloatByLoad() {
        for (int thick = 0; thick <= 9; thick++) {
            for (int load = 0; load <= 9; load++) {
                String text = "boat cup 1 1 " + load + " 1;" + (thick == 0 ? "" : "thick 1 1 " + thick + ";");
                PorridgeSea x = Due.made(text);
                Due.due("LOAD " + load + " on " + thick, x.boat(0, 7), thick >= load ? 1 : 0);
                Due.due("as bits", x.now(4), thick >= load ? 1 : 0);
                x.days(1);
                Due.due("DEPTH by LOAD " + load + " on " + thick, x.boat(0, 5), thick >= load ? 0 : 1);
                Due.due("by a LUMP", Due.made(text + "lump rock 1 1;").boat(0, 7), 1);
                Due.due("by a LUMP next to it", Due.made(text + "lump rock 1 2;").boat(0, 7), thick >= load ? 1 : 0);
                Due.due("by a SKIN", Due.made(text + "heat 3;").boat(0, 7), 1);
                Due.due("by no SKIN yet", Due.made(text + "heat 4;").boat(0, 7), thick >= load ? 1 : 0);
            }
        }
    }

    /** "A STEP into a cell costs 1, if there is a SKIN, else 1 and a third (cut) of how thick it is." */
    private static void costOfAStep() {
        int[] costs = {1, 1, 1, 2, 2, 2, 3, 3, 3, 4};
        PorridgeSea x = Due.made("heat 4;boat cup 0 0 0 9;");
        PorridgeSea cold = Due.made("heat 3;boat cup 0 0 0 9;");
        for (int thick = 0; thick <= 9; thick++) {
            Due.due("cost of " + thick, x.cost(1, 0), costs[thick]);
            Due.due("cost under a SKIN", cold.cost(1, 0), 1);
            x.row(0, 0);
            cold.row(0, 0);
            Due.due("SPOONS left behind " + thick, x.boat(0, 4), 9 - costs[thick]);
            Due.due("SPOONS left on a SKIN", cold.boat(0, 4), 8);
            x.undo();
            cold.undo();
            x.flour(1, 0, 1);
            cold.flour(1, 0, 1);
        }
    }

    /** "all that is in its cells .. goes one cell on .., over the rim to the other end" */
    private static void stirringEverySize() {
        for (int wide = 2; wide <= 6; wide++) {
            for (int high = 2; high <= 6; high++) {
                for (int n = 0; n < wide + high; n++) {
                    int column = n < high ? 0 : 1;
                    int line = n < high ? n : n - high;
                    stirOne(wide, high, column, line, 0);
                    stirOne(wide, high, column, line, 1);
                }
            }
        }
    }

    private static String numbered(int wide, int high) {
        StringBuilder text = new StringBuilder("sea " + wide + " " + high + ";");
        for (int cell = 0; cell < wide * high; cell++) {
            int x = cell % wide;
            int y = cell / wide;
            text.append("thick " + x + " " + y + " " + ((7 * x + 3 * y + x * y) % 9 + 1) + ";");
        }
        for (int i = 0; i < 6 && i < wide * high; i++) {
            int cell = (wide * high - 1) * i / 5;
            if (i == 0 || cell != (wide * high - 1) * (i - 1) / 5) {
                text.append("lump l" + (char) ('a' + i) + " " + cell % wide + " " + cell / wide + ";");
            }
            text.append("boat b" + (char) ('a' + i) + " " + (cell * 5 + i) % wide + " " + (cell + i) % high + " 0 1;");
        }
        return text.toString();
    }

    private static int moved(int at, int by, int length) {
        return (at + by + length) % length;
    }

    private static void stirOne(int wide, int high, int column, int line, int back) {
        String text = numbered(wide, high);
        PorridgeSea was = Due.made(text);
        PorridgeSea x = Due.made(text);
        String what = "stir(" + column + ", " + line + ", " + back + ") of " + wide + " by " + high;
        Due.due(what, x.stir(column, line, back), 0);
        int by = back == 0 ? 1 : -1;
        for (int cell = 0; cell < wide * high; cell++) {
            int cx = cell % wide;
            int cy = cell / wide;
            int toX = column == 0 && cy == line ? moved(cx, by, wide) : cx;
            int toY = column == 1 && cx == line ? moved(cy, by, high) : cy;
            Due.due(what + ": thick", x.thick(toX, toY), was.thick(cx, cy));
        }
        for (int l = 0; l < was.count(2); l++) {
            boolean goes = was.lump(l, 1 - column) == line;
            int length = column == 0 ? wide : high;
            Due.due(what + ": LUMP", x.lump(l, column), moved(was.lump(l, column), goes ? by : 0, length));
            Due.due(what + ": LUMP", x.lump(l, 1 - column), was.lump(l, 1 - column));
        }
        for (int b = 0; b < was.count(3); b++) {
            boolean goes = was.boat(b, 1 - column) == line;
            int length = column == 0 ? wide : high;
            Due.due(what + ": BOAT", x.boat(b, column), moved(was.boat(b, column), goes ? by : 0, length));
            Due.due(what + ": BOAT", x.boat(b, 1 - column), was.boat(b, 1 - column));
            Due.due(what + ": SPOONS", x.boat(b, 4), 1);
        }
        Due.due(what + ": STIRS so far", x.now(6), 1);
        x.stir(column, line, 1 - back);
        Due.due(what + ": and back", Due.cells(x), Due.cells(was));
    }

    /** "why not: 1 there is a SKIN"; "BOATS that are not EATEN" */
    private static void whatIsNotStirred() {
        PorridgeSea x = Due.made("heat 8;cools 2;skin 2;boat a 0 0 1 1;boat b 0 0 0 1;");
        x.days(2);
        x.stir(0, 0, 1);
        Due.due("one that sinks goes, too", x.boat(0, 0), 3);
        x.stir(0, 0, 0);
        x.stove(2);
        x.days(1);
        Due.due("EATEN", x.now(3), 1);
        x.stir(0, 0, 1);
        Due.due("an EATEN one stays", x.boat(0, 0), 0);
        Due.due("the other goes over the rim", x.boat(1, 0), 3);
        Due.due("no SKIN at 4", x.now(1), 4);
        x.days(1);
        Due.due("a SKIN at 2", x.stir(0, 0, 0), 1);
        Due.due("nothing goes", x.boat(1, 0), 3);
        Due.due("STIRS so far", x.now(6), 3);
    }

    /** Promise 10: "NONE: no such ones" */
    private static void noSuchLine() {
        for (int wide = 2; wide <= 6; wide++) {
            int high = 8 - wide;
            PorridgeSea x = Due.made("sea " + wide + " " + high + ";");
            for (int n = -2; n < 9; n++) {
                Due.due("row " + n + " of " + high, x.stir(0, n, 0), n >= 0 && n < high ? 0 : -1);
                Due.due("column " + n + " of " + wide, x.stir(1, n, 1), n >= 0 && n < wide ? 0 : -1);
            }
            Due.due("STIRS so far", x.now(6), 8);
            for (int other = -2; other < 4; other++) {
                boolean is = other == 0 || other == 1;
                Due.due("column " + other, x.stir(other, 0, 0), is ? 0 : -1);
                Due.due("back " + other, x.stir(0, 0, other), is ? 0 : -1);
            }
            for (int far : Due.FAR) {
                Due.due("column " + far, x.stir(far, 0, 0), -1);
                Due.due("n " + far, x.stir(0, far, 0), -1);
                Due.due("n " + far, x.stir(1, far, 0), -1);
                Due.due("back " + far, x.stir(0, 0, far), -1);
            }
            Due.due("STIRS so far", x.now(6), 12);
        }
        PorridgeSea cold = Due.made("sea 2 3;heat 0;");
        Due.due("row 2 under a SKIN", cold.stir(0, 2, 0), 1);
        Due.due("row 3 under a SKIN", cold.stir(0, 3, 0), -1);
        Due.due("column 1 under a SKIN", cold.stir(1, 1, 1), 1);
        Due.due("column 2 under a SKIN", cold.stir(1, 2, 1), -1);
    }

    /** "2 there is no cell": at every rim of every size. */
    private static void rowingFromEveryCell() {
        for (int wide = 2; wide <= 6; wide++) {
            for (int high = 2; high <= 6; high++) {
                for (int cell = 0; cell < wide * high; cell++) {
                    PorridgeSea x = Due.made("sea " + wide + " " + high + ";boat cup " + cell % wide + " "
                            + cell / wide + " 0 9;");
                    rowToEverySide(x, wide, high);
                }
            }
        }
    }

    private static void rowToEverySide(PorridgeSea x, int wide, int high) {
        int cx = x.boat(0, 0);
        int cy = x.boat(0, 1);
        for (int side = 0; side < 4; side++) {
            int toX = cx + DX[side];
            int toY = cy + DY[side];
            boolean is = toX >= 0 && toX < wide && toY >= 0 && toY < high;
            Due.due("row from " + cx + " " + cy + " to " + side, x.row(0, side), is ? 0 : 2);
            Due.due("X then", x.boat(0, 0), is ? toX : cx);
            Due.due("Y then", x.boat(0, 1), is ? toY : cy);
            Due.due("STEPS so far", x.now(7), is ? 1 : 0);
            Due.due("SPOONS left", x.boat(0, 4), is ? 8 : 9);
            Due.due("undo", x.undo(), is ? 0 : -1);
        }
    }

    /** "3 the STEP costs more than the SPOONS that are left to it today" */
    private static void rowingByTheLastSpoon() {
        for (int thick = 0; thick <= 9; thick++) {
            for (int spoons = 1; spoons <= 9; spoons++) {
                String text = "sea 2 2;boat cup 0 0 0 " + spoons + ";" + (thick == 0 ? "" : "thick 1 0 " + thick + ";");
                PorridgeSea x = Due.made(text);
                int cost = 1 + thick / 3;
                Due.due("cost " + cost + " by " + spoons, x.row(0, 0), cost > spoons ? 3 : 0);
                Due.due("SPOONS left", x.boat(0, 4), cost > spoons ? spoons : spoons - cost);
                Due.due("all SPOONS stay", x.boat(0, 3), spoons);
                PorridgeSea y = Due.made(text);
                for (int i = 0; i < spoons - cost; i++) {
                    Due.due("down and up", y.row(0, i % 2 == 0 ? 1 : 3), 0);
                }
                if ((spoons - cost) % 2 == 0) {
                    Due.due("by just the SPOONS left", y.row(0, 0), cost > spoons ? 3 : 0);
                    Due.due("none left", y.boat(0, 4), cost > spoons ? spoons : 0);
                }
            }
        }
        PorridgeSea x = Due.made("boat cup 0 0 0 1;");
        Due.due("the only SPOON", x.row(0, 0), 0);
        Due.due("none left", x.row(0, 0), 3);
        x.days(1);
        Due.due("the next DAY", x.row(0, 0), 0);
        Due.due("STEPS so far", x.now(7), 2);
    }

    /** "why not, the least"; promise 11: "NONE: no such ones" */
    private static void whyNotRowedTheLeast() {
        PorridgeSea x = Due.made("cools 0;thick 1 0 9;boat a 0 0 1 1;boat b 0 0 0 1;");
        Due.due("no SPOONS for it", x.row(1, 0), 3);
        Due.due("no cell", x.row(1, 2), 2);
        Due.due("no cell", x.row(1, 3), 2);
        x.row(1, 1);
        Due.due("no cell, no SPOONS", x.row(1, 2), 2);
        x.days(3);
        for (int side = 0; side < 4; side++) {
            Due.due("EATEN, to " + side, x.row(0, side), 1);
        }
        for (int side = -2; side < 7; side++) {
            if (side < 0 || side > 3) {
                Due.due("no SIDE " + side, x.row(1, side), -1);
                Due.due("EATEN, no SIDE " + side, x.row(0, side), -1);
            }
        }
        for (int b = -2; b < 8; b++) {
            if (b < 0 || b > 1) {
                Due.due("no BOAT " + b, x.row(b, 0), -1);
            }
        }
        for (int far : Due.FAR) {
            Due.due("no BOAT " + far, x.row(far, 0), -1);
            Due.due("no SIDE " + far, x.row(1, far), -1);
        }
        Due.due("STEPS so far", x.now(7), 1);
    }

    /** "To FLOUR a cell by n: 1 it is 9 thick: so much thicker (9 at most)." */
    private static void flouring() {
        for (int thick = 0; thick <= 9; thick++) {
            for (int n = 1; n <= 9; n++) {
                PorridgeSea x = Due.made("sea 6 6;" + (thick == 0 ? "" : "thick 5 4 " + thick + ";"));
                Due.due("flour by " + n + " on " + thick, x.flour(5, 4, n), thick == 9 ? 1 : 0);
                Due.due("so thick then", x.thick(5, 4), Math.min(9, thick + n));
                Due.due("all thickness", x.now(5), Math.min(9, thick + n));
                Due.due("undo", x.undo(), thick == 9 ? -1 : 0);
                Due.due("so thick again", x.thick(5, 4), thick);
            }
        }
    }

    /** "To MILK it by n: 1 it is 0 thick: so much thinner (0 at least)." */
    private static void milking() {
        for (int thick = 0; thick <= 9; thick++) {
            for (int n = 1; n <= 9; n++) {
                PorridgeSea x = Due.made("sea 6 6;" + (thick == 0 ? "" : "thick 5 4 " + thick + ";"));
                Due.due("milk by " + n + " on " + thick, x.milk(5, 4, n), thick == 0 ? 1 : 0);
                Due.due("so thick then", x.thick(5, 4), Math.max(0, thick - n));
                Due.due("all thickness", x.now(5), Math.max(0, thick - n));
                Due.due("undo", x.undo(), thick == 0 ? -1 : 0);
                Due.due("so thick again", x.thick(5, 4), thick);
            }
        }
    }

    /** Promises 12, 13: "n (1 to 9)"; "NONE: no such ones" */
    private static void noSuchFlourOrMilk() {
        for (int wide = 2; wide <= 6; wide++) {
            int high = 8 - wide;
            PorridgeSea x = Due.made("sea " + wide + " " + high + ";");
            for (int n = -1; n < 8; n++) {
                Due.due("flour X " + n, x.flour(n, high - 1, 1), n >= 0 && n < wide ? 0 : -1);
                Due.due("milk X " + n, x.milk(n, high - 1, 1), n >= 0 && n < wide ? 0 : -1);
                Due.due("flour Y " + n, x.flour(wide - 1, n, 1), n >= 0 && n < high ? 0 : -1);
                Due.due("milk Y " + n, x.milk(wide - 1, n, 1), n >= 0 && n < high ? 0 : -1);
            }
            Due.due("all thickness", x.now(5), 0);
        }
        PorridgeSea x = new PorridgeSea();
        int[] none = {-1, 0, 10, 11};
        for (int n : none) {
            Due.due("flour by " + n, x.flour(0, 0, n), -1);
            Due.due("milk by " + n, x.milk(0, 0, n), -1);
        }
        for (int far : Due.FAR) {
            Due.due("flour by " + far, x.flour(0, 0, far), -1);
            Due.due("flour X " + far, x.flour(far, 0, 1), -1);
            Due.due("flour Y " + far, x.flour(0, far, 1), -1);
            Due.due("milk by " + far, x.milk(0, 0, far), -1);
            Due.due("milk X " + far, x.milk(far, 0, 1), -1);
            Due.due("milk Y " + far, x.milk(0, far, 1), -1);
        }
        Due.due("nothing was done", x.undo(), -1);
        Due.due("no such n ahead of 0 thick", x.milk(0, 0, 0), -1);
        x.flour(0, 0, 9);
        Due.due("no such n ahead of 9 thick", x.flour(0, 0, 10), -1);
    }

    /** "To STOVE by n: 1 the heat is 30: so much more (30 at most)."; promise 14: "n (1 to 20)" */
    private static void warming() {
        for (int heat = 0; heat <= 30; heat++) {
            for (int n = -1; n <= 22; n++) {
                PorridgeSea x = Due.made("heat " + heat + ";");
                boolean told = n >= 1 && n <= 20;
                Due.due("stove(" + n + ") at " + heat, x.stove(n), !told ? -1 : heat == 30 ? 1 : 0);
                Due.due("the heat then", x.now(1), told ? Math.min(30, heat + n) : heat);
                Due.due("undo", x.undo(), told && heat < 30 ? 0 : -1);
                Due.due("the heat again", x.now(1), heat);
            }
        }
        PorridgeSea x = new PorridgeSea();
        for (int far : Due.FAR) {
            Due.due("stove(" + far + ")", x.stove(far), -1);
        }
        Due.due("the heat", x.now(1), 10);
    }

    /** "AFLOAT its DEPTH is 0; else it is 1 more, and at 3 it is EATEN" */
    private static void depthDayByDay() {
        for (int sinking = 0; sinking <= 4; sinking++) {
            PorridgeSea x = Due.made("cools 0;boat cup 0 0 5 1;");
            for (int i = 1; i <= sinking; i++) {
                x.days(1);
                Due.due("DEPTH", x.boat(0, 5), Math.min(3, i));
                Due.due("EATEN", x.now(3), i >= 3 ? 1 : 0);
            }
            x.flour(0, 0, 5);
            Due.due("AFLOAT now", x.boat(0, 7), sinking < 3 ? 1 : 0);
            Due.due("its DEPTH yet", x.boat(0, 5), Math.min(3, sinking));
            x.days(1);
            Due.due("its DEPTH the next DAY", x.boat(0, 5), sinking < 3 ? 0 : 3);
            x.milk(0, 0, 1);
            x.days(2);
            Due.due("it sinks anew", x.boat(0, 5), sinking < 3 ? 2 : 3);
            Due.due("EATEN", x.boat(0, 6), sinking < 3 ? 0 : 1);
        }
        PorridgeSea x = Due.made("cools 0;boat cup 0 0 5 1;");
        Due.due("three at once", x.days(3), 3);
        Due.due("EATEN", x.now(3), 1);
        x.undo();
        Due.due("two at once", x.days(2), 2);
        Due.due("not yet", x.now(3), 0);
    }

    /** "Then the heat is 'cools' less (0 at least)." */
    private static void coolingToNothing() {
        for (int heat = 0; heat <= 30; heat++) {
            for (int cools = 0; cools <= 5; cools++) {
                PorridgeSea x = Due.made("heat " + heat + ";cools " + cools + ";");
                x.days(1);
                Due.due("heat " + heat + " less " + cools, x.now(1), Math.max(0, heat - cools));
                x.days(6);
                Due.due("heat " + heat + " less 7 by " + cools, x.now(1), Math.max(0, heat - 7 * cools));
            }
        }
        PorridgeSea x = Due.made("heat 4;skin 3;boat cup 0 0 1 1;");
        x.days(1);
        Due.due("it sank ahead of the SKIN", x.boat(0, 5), 1);
        Due.due("the SKIN is there", x.now(2), 1);
        x.days(1);
        Due.due("on the SKIN", x.boat(0, 5), 0);
    }

    /** Promise 15: "n (1 to 60)"; "NONE: not as told" */
    private static void noSuchDays() {
        for (int n = -2; n <= 63; n++) {
            PorridgeSea x = Due.made("heat 30;cools 0;");
            boolean told = n >= 1 && n <= 60;
            Due.due("days(" + n + ")", x.days(n), told ? n : -1);
            Due.due("the DAY", x.now(0), told ? n : 0);
            Due.due("undo", x.undo(), told ? 0 : -1);
        }
        PorridgeSea x = new PorridgeSea();
        for (int far : Due.FAR) {
            Due.due("days(" + far + ")", x.days(far), -1);
        }
        Due.due("the DAY", x.now(0), 0);
    }

    /** "A DAY (0 to 399; 400: all are over)" */
    private static void theLastDay() {
        for (int before = 339; before <= 400; before++) {
            PorridgeSea x = Due.made("heat 30;cools 0;boat cup 0 0 0 1;");
            pass(x, before);
            Due.due("the DAY", x.now(0), before);
            int go = Math.min(60, 400 - before);
            Due.due("days(60) at " + before, x.days(60), go);
            Due.due("the DAY", x.now(0), before + go);
            if (go > 0) {
                x.undo();
                Due.due("drawn(60, 1) at " + before, x.drawn(60, 1), go);
                Due.due("the DAY", x.now(0), before + go);
            }
        }
        PorridgeSea x = Due.made("heat 30;cools 1;skin 0;boat cup 0 0 1 1;thick 0 0 1;");
        pass(x, 399);
        x.stove(20);
        x.milk(0, 0, 1);
        Due.due("days(2) at 399", x.days(2), 1);
        Due.due("it sank once", x.boat(0, 5), 1);
        Due.due("it cooled once", x.now(1), 19);
        Due.due("days(1) at 400", x.days(1), 0);
        Due.due("days(60) at 400", x.days(60), 0);
        Due.due("days(61) at 400", x.days(61), -1);
        Due.due("days(0) at 400", x.days(0), -1);
        Due.due("drawn(1, 1) at 400", x.drawn(1, 1), 0);
        Due.due("drawn(61, 1) at 400", x.drawn(61, 1), -1);
        Due.due("it did not sink on", x.boat(0, 5), 1);
        Due.due("it did not cool on", x.now(1), 19);
        Due.due("the DAY", x.now(0), 400);
    }

    private static void actsBehindTheLastDay() {
        PorridgeSea x = Due.made("heat 30;cools 0;boat cup 0 0 0 3;lump rock 1 1;");
        pass(x, 400);
        Due.due("stir", x.stir(0, 0, 0), 0);
        Due.due("row", x.row(0, 1), 0);
        Due.due("flour", x.flour(0, 0, 1), 0);
        Due.due("milk", x.milk(0, 0, 1), 0);
        Due.due("way", x.way(0, 0), 0);
        Due.due("meet", x.meet(0, 0), 0);
        Due.due("odds", x.odds(0, 30, 1), 0);
        Due.due("stove", x.stove(1), 1);
        Due.due("a BOOK without 'day'", Due.book(x, "stir row 0 on;", 1), -1);
        Due.due("a BOOK with 'day'", Due.book(x, "stir row 0 on;day 1;", 0), 1);
        Due.due("why", x.told(0), 51);
    }

    /** Promise 16: "how many more can be (8 at most are kept); NONE: none is" */
    private static void eightAreKept() {
        for (int acts = 0; acts <= 20; acts++) {
            PorridgeSea x = Due.made("heat 0;cools 0;skin 0;sea 6 6;");
            for (int i = 0; i < acts; i++) {
                x.flour(i % 6, i / 6, 1);
            }
            int kept = Math.min(8, acts);
            for (int more = kept - 1; more >= 0; more--) {
                Due.due("undo of " + acts, x.undo(), more);
                Due.due("all thickness", x.now(5), acts - kept + more);
            }
            Due.due("none is", x.undo(), -1);
            Due.due("none is", x.undo(), -1);
            Due.due("all thickness", x.now(5), acts - kept);
        }
        PorridgeSea x = new PorridgeSea();
        for (int i = 0; i < 30; i++) {
            x.stove(1);
            x.flour(0, 0, 1);
            Due.due("undo the later one", x.undo(), Math.min(7, i + 1));
        }
        Due.due("20 were done", x.now(1), 30);
    }

    private static void eachActIsUndone() {
        String text = "sea 3 3;heat 20;cools 3;skin 2;thick 0 0 5;thick 1 1 7;lump rock 0 1;boat a 0 0 9 9;boat b 1 1 0 3;";
        PorridgeSea x = Due.made(text);
        x.row(1, 0);
        x.days(1);
        x.row(0, 1);
        String before = Due.state(x);
        for (int act = 0; act < 8; act++) {
            Due.due("act " + act + " is done", act(x, act), true);
            Due.due("act " + act + " changes something", Due.state(x).equals(before), false);
            Due.due("undo of act " + act, x.undo(), 3);
            Due.due("as it was ahead of act " + act, Due.state(x), before);
        }
        x.undo();
        x.undo();
        x.undo();
        Due.due("as at first", Due.state(x), Due.state(Due.made(text)));
    }

    private static boolean act(PorridgeSea x, int act) {
        switch (act) {
            case 0:
                return x.stir(1, 1, 1) == 0;
            case 1:
                return x.row(0, 1) == 0;
            case 2:
                return x.flour(0, 0, 1) == 0;
            case 3:
                return x.milk(0, 0, 1) == 0;
            case 4:
                return x.stove(1) == 0;
            case 5:
                return x.days(60) == 60;
            case 6:
                return x.drawn(60, 12345) == 60;
            default:
                return Due.book(x, "stir row 0 on;flour 2 2 1;day 3;", 1) == -1;
        }
    }

    /** "that was done, days() above 0, drawn() above 0, a BOOK that was lived" */
    private static void refusedActsAreNotKept() {
        PorridgeSea x = Due.made("heat 30;cools 0;thick 0 0 9;boat a 0 0 9 1;boat b 3 3 0 1;");
        pass(x, 400);
        x.image(0);
        x.restore(0);
        x.stir(0, 4, 0);
        x.row(0, 3);
        x.row(1, 0);
        x.row(2, 0);
        x.flour(0, 0, 1);
        x.flour(1, 1, 0);
        x.milk(1, 1, 1);
        x.milk(0, 0, 10);
        x.stove(1);
        x.stove(21);
        x.days(1);
        x.days(61);
        x.drawn(1, 1);
        x.drawn(0, 1);
        x.odds(0, 30, 1);
        Due.book(x, "milk 0 0 1;", 0);
        Due.book(x, "milk 0 0 0;", 1);
        x.book(2);
        Due.due("none is", x.undo(), -1);
        Due.book(x, "milk 1 1 1;", 1);
        Due.due("a BOOK that was lived as far as it is not WRONG", x.undo(), 0);
        Due.book(x, "", 1);
        Due.due("an empty BOOK that was lived", x.undo(), 0);
        PorridgeSea cold = Due.made("heat 3;boat a 0 0 9 1;");
        cold.stir(0, 0, 0);
        Due.due("a SKIN", cold.undo(), -1);
    }

    private static void whatUndoLeaves() {
        PorridgeSea x = Due.made("sea 3 3;lump rock 2 2;boat cup 0 0 1 9;");
        x.stove(5);
        x.way(0, 0);
        x.meet(0, 0);
        x.fleet(1);
        x.chart(0);
        Due.sunk(x, 0, 1);
        Due.book(x, "stove 1;", 0);
        Due.sentence(x, "load = 1");
        x.feed(1, 2, 3, 4, 5);
        Due.due("undo", x.undo(), 0);
        Due.due("the heat", x.now(1), 10);
        Due.due("the SENTENCE", x.said(0), 0);
        Due.due("wayAt()", Due.sides(x), "0011");
        Due.due("wayDays()", x.wayDays(), 1);
        Due.due("meetAt()", Due.stirs(x), "000 111");
        Due.due("fleets()", x.fleets(), 1);
        Due.due("byteAt()", x.byteAt(0), 'c');
        Due.due("sunkAt()", x.sunkAt(0), 14);
        Due.due("told()", x.told(1), 1);
        Due.due("the tape", x.count(6), 20);
        Due.due("none is", x.undo(), -1);
        Due.due("the tape", x.count(6), 20);
    }

    /** Promise 18: "(0: there is); NONE: never, not by DAY 400" */
    private static void daysToASkin() {
        for (int heat = 0; heat <= 30; heat++) {
            for (int cools = 0; cools <= 5; cools++) {
                for (int skin = 0; skin <= 30; skin += 3) {
                    String text = "heat " + heat + ";cools " + cools + ";skin " + skin + ";";
                    PorridgeSea x = Due.made(text);
                    Due.due("skin() of " + text, x.skin(), daysByHand(text));
                    Due.due("nothing was done", x.now(0), 0);
                }
            }
        }
        PorridgeSea x = Due.made("heat 30;cools 1;skin 20;");
        pass(x, 389);
        x.stove(20);
        Due.due("heat 30 at 389", x.now(1), 20);
        x.stove(20);
        Due.due("by DAY 399", x.skin(), 10);
        x.days(1);
        x.stove(1);
        Due.due("by DAY 400", x.skin(), 10);
        x.days(1);
        x.stove(1);
        Due.due("not by DAY 400", x.skin(), -1);
        x.days(9);
        Due.due("on DAY 400", x.now(0), 400);
        Due.due("never", x.skin(), -1);
        PorridgeSea cold = Due.made("heat 3;cools 0;");
        pass(cold, 400);
        Due.due("there is one on DAY 400", cold.skin(), 0);
    }

    private static int daysByHand(String text) {
        PorridgeSea x = Due.made(text);
        int days = 0;
        while (x.now(2) == 0 && days < 35) {
            x.days(1);
            days++;
        }
        return x.now(2) == 1 ? days : -1;
    }
}

/** What is so, and acts: promises 1 and 6 to 18, 41. */
final class ActTest {
    private static final String SEA = "sea 3 3;thick 0 0 3;thick 1 0 6;thick 2 1 9;thick 1 2 4;"
            + "lump rock 2 0;lump isle 2 1;lump skerry 0 2;"
            + "boat spoon 0 0 3 2;boat ladle 1 1 5 4;boat cup 0 1 0 3;heat 6;cools 2;skin 2;";

    private ActTest() {
    }

    public static void main(String[] args) {
        aNewObject();
        factsOfASea();
        stirring();
        rowing();
        flourAndMilk();
        stove();
        daysGo();
        eatenBoats();
        lastDay();
        undoing();
        aNewSea();
        costAndSkin();
        counts();
        Due.close("ActTest");
    }

    private static void aNewObject() {
        PorridgeSea x = new PorridgeSea();
        Due.due("NONE", PorridgeSea.NONE, -1);
        Due.due("a new object", Due.state(x), "0000/0000/0000/0000 0 10 0 0 0 0 0 0 4 4 0 0 1 3");
        Due.due("its tape", x.count(6), 0);
        Due.due("fault()", x.fault(), 0);
        Due.due("undo()", x.undo(), -1);
        Due.due("wayAt(0)", x.wayAt(0), -1);
        Due.due("wayDays()", x.wayDays(), -1);
        Due.due("meetAt(0, 0)", x.meetAt(0, 0), -1);
        Due.due("sunkAt(0)", x.sunkAt(0), -1);
        Due.due("send()", x.send(), -1);
        Due.due("fleets()", x.fleets(), -1);
        Due.due("byteAt(0)", x.byteAt(0), -1);
        for (int what = -1; what < 5; what++) {
            Due.due("told(" + what + ")", x.told(what), -1);
        }
        Due.due("said(-1)", x.said(-1), -1);
        Due.due("said(0)", x.said(0), -1);
        Due.due("restore(0)", x.restore(0), false);
        Due.due("restore(1)", x.restore(1), false);
    }

    private static void factsOfASea() {
        PorridgeSea x = Due.made(SEA);
        Due.due("thick", Due.cells(x), "360/009/040");
        Due.due("thick(-1, 0)", x.thick(-1, 0), -1);
        Due.due("thick(0, -1)", x.thick(0, -1), -1);
        Due.due("thick(3, 0)", x.thick(3, 0), -1);
        Due.due("thick(0, 3)", x.thick(0, 3), -1);
        Due.due("lump(0, 0)", x.lump(0, 0), 2);
        Due.due("lump(0, 1)", x.lump(0, 1), 0);
        Due.due("lump(2, 0)", x.lump(2, 0), 0);
        Due.due("lump(2, 1)", x.lump(2, 1), 2);
        Due.due("lump(3, 0)", x.lump(3, 0), -1);
        Due.due("lump(-1, 0)", x.lump(-1, 0), -1);
        Due.due("lump(0, 2)", x.lump(0, 2), -1);
        Due.due("lump(0, -1)", x.lump(0, -1), -1);
        int[][] boats = {{0, 0, 3, 2, 2, 0, 0, 1}, {1, 1, 5, 4, 4, 0, 0, 0}, {0, 1, 0, 3, 3, 0, 0, 1}};
        for (int b = 0; b < 3; b++) {
            for (int what = 0; what < 8; what++) {
                Due.due("boat(" + b + ", " + what + ")", x.boat(b, what), boats[b][what]);
            }
        }
        Due.boatThrows(x, 3, 0);
        Due.boatThrows(x, -1, 0);
        Due.boatThrows(x, 0, 8);
        Due.boatThrows(x, 0, -1);
        int[] now = {0, 6, 0, 0, 5, 22, 0, 0};
        for (int what = 0; what < 8; what++) {
            Due.due("now(" + what + ")", x.now(what), now[what]);
        }
        Due.due("now(8)", x.now(8), -1);
        Due.due("now(-1)", x.now(-1), -1);
        PorridgeSea y = Due.made("lump rock 1 1;boat a 1 1 9 1;boat b 0 0 9 1;boat c 0 0 0 1;");
        Due.due("AFLOAT by a LUMP, and without a LOAD", y.now(4), 5);
        PorridgeSea z = Due.made("heat 5;skin 5;boat a 1 1 9 1;");
        Due.due("a SKIN at just that heat", z.now(2), 1);
        Due.due("AFLOAT by the SKIN", z.boat(0, 7), 1);
    }

    private static void stirring() {
        String text = "sea 3 2;thick 0 0 1;thick 1 0 2;thick 2 0 3;thick 0 1 4;thick 1 1 5;thick 2 1 6;"
                + "lump rock 2 0;lump isle 0 1;boat cup 2 0 9 1;boat mug 2 0 0 1;";
        PorridgeSea x = Due.made(text);
        Due.due("row 0 on", x.stir(0, 0, 0), 0);
        Due.due("it went on", Due.cells(x), "312/456");
        Due.due("the LUMP too", x.lump(0, 0), 0);
        Due.due("the other LUMP not", x.lump(1, 1), 1);
        Due.due("the BOAT too", x.boat(0, 0), 0);
        Due.due("both BOATS", x.boat(1, 0), 0);
        Due.due("row 0 back", x.stir(0, 0, 1), 0);
        Due.due("back again", Due.cells(x), "123/456");
        Due.due("row 1 back", x.stir(0, 1, 1), 0);
        Due.due("back", Due.cells(x), "123/564");
        Due.due("over the rim", x.lump(1, 0), 2);
        Due.due("column 2 on", x.stir(1, 2, 0), 0);
        Due.due("column on", Due.cells(x), "124/563");
        Due.due("LUMPS change places", x.lump(0, 1), 1);
        Due.due("LUMPS change places", x.lump(1, 1), 0);
        Due.due("the BOAT", x.boat(0, 1), 1);
        Due.due("STIRS so far", x.now(6), 4);
        Due.due("STEPS so far", x.now(7), 0);
        int[][] none = {{-1, 0, 0}, {2, 0, 0}, {0, -1, 0}, {0, 2, 0}, {1, 3, 0}, {0, 0, -1}, {0, 0, 2}};
        for (int[] call : none) {
            Due.due("stir to NONE", x.stir(call[0], call[1], call[2]), -1);
        }
        Due.due("column 2 is", x.stir(1, 2, 1), 0);
        Due.due("column back", Due.cells(x), "123/564");
        PorridgeSea back = Due.made("lump rock 1 2;boat cup 1 2 0 1;");
        back.stir(0, 2, 1);
        Due.due("back to the rim", back.lump(0, 0), 0);
        Due.due("back to the rim", back.boat(0, 0), 0);
        back.stir(0, 2, 1);
        Due.due("over it", back.lump(0, 0), 3);
        PorridgeSea tall = Due.made("sea 2 6;thick 0 0 1;thick 0 1 2;thick 0 2 3;thick 0 3 4;thick 0 4 5;thick 0 5 6;");
        tall.stir(1, 0, 0);
        Due.due("a column of 6 on", Due.cells(tall), "60/10/20/30/40/50");
        tall.stir(1, 0, 1);
        tall.stir(1, 0, 1);
        Due.due("a column of 6 back", Due.cells(tall), "20/30/40/50/60/10");
        PorridgeSea cold = Due.made("heat 3;thick 0 0 5;");
        Due.due("a SKIN", cold.stir(0, 0, 0), 1);
        Due.due("no such row under a SKIN", cold.stir(0, 4, 0), -1);
        Due.due("nothing went", cold.thick(0, 0), 5);
        Due.due("none so far", cold.now(6), 0);
    }

    private static void rowing() {
        PorridgeSea x = Due.made(SEA);
        Due.due("too dear", x.row(0, 0), 3);
        Due.due("no cell north", x.row(0, 3), 2);
        Due.due("no cell west", x.row(0, 2), 2);
        Due.due("south", x.row(0, 1), 0);
        Due.due("y", x.boat(0, 1), 1);
        Due.due("SPOONS left", x.boat(0, 4), 1);
        Due.due("all SPOONS", x.boat(0, 3), 2);
        Due.due("back is too dear now", x.row(0, 3), 3);
        Due.due("east", x.row(0, 0), 0);
        Due.due("SPOONS left", x.boat(0, 4), 0);
        Due.due("STEPS so far", x.now(7), 2);
        Due.due("by all SPOONS", x.row(1, 0), 0);
        Due.due("SPOONS left", x.boat(1, 4), 0);
        Due.due("no cell east", x.row(1, 0), 2);
        Due.due("no SPOONS", x.row(1, 2), 3);
        Due.due("no such SIDE", x.row(1, 4), -1);
        Due.due("no such SIDE", x.row(1, -1), -1);
        Due.due("no such BOAT", x.row(3, 0), -1);
        Due.due("no such BOAT", x.row(-1, 0), -1);
        PorridgeSea cold = Due.made("heat 3;thick 1 0 9;boat cup 0 0 9 1;");
        Due.due("over a SKIN", cold.row(0, 0), 0);
        Due.due("x", cold.boat(0, 0), 1);
        Due.due("it cost 1", cold.boat(0, 4), 0);
        PorridgeSea corner = Due.made("boat cup 3 3 0 9;");
        Due.due("south over the rim", corner.row(0, 1), 2);
        Due.due("north", corner.row(0, 3), 0);
        Due.due("west", corner.row(0, 2), 0);
        Due.due("CHART", Due.chart(corner, 0), "cup at 2 2");
    }

    private static void flourAndMilk() {
        PorridgeSea x = new PorridgeSea();
        Due.due("flour", x.flour(1, 2, 4), 0);
        Due.due("so thick", x.thick(1, 2), 4);
        Due.due("9 at most", x.flour(1, 2, 9), 0);
        Due.due("so thick", x.thick(1, 2), 9);
        Due.due("9 thick", x.flour(1, 2, 1), 1);
        Due.due("milk", x.milk(1, 2, 7), 0);
        Due.due("so thick", x.thick(1, 2), 2);
        Due.due("0 at least", x.milk(1, 2, 3), 0);
        Due.due("so thick", x.thick(1, 2), 0);
        Due.due("0 thick", x.milk(1, 2, 9), 1);
        int[][] none = {{-1, 0, 1}, {4, 0, 1}, {0, -1, 1}, {0, 4, 1}, {0, 0, 0}, {0, 0, 10}, {0, 0, -1}};
        for (int[] call : none) {
            Due.due("flour to NONE", x.flour(call[0], call[1], call[2]), -1);
            Due.due("milk to NONE", x.milk(call[0], call[1], call[2]), -1);
        }
        PorridgeSea cold = Due.made("heat 0;thick 0 0 9;");
        Due.due("flour under a SKIN", cold.flour(1, 1, 9), 0);
        Due.due("milk under a SKIN", cold.milk(0, 0, 9), 0);
        Due.due("n not as told, 9 thick", cold.flour(1, 1, 10), -1);
        Due.due("n not as told, 0 thick", cold.milk(0, 0, 10), -1);
    }

    private static void stove() {
        PorridgeSea x = Due.made("heat 2;");
        Due.due("a SKIN", x.now(2), 1);
        Due.due("stove(1)", x.stove(1), 0);
        Due.due("a SKIN", x.now(2), 1);
        Due.due("stove(20)", x.stove(20), 0);
        Due.due("heat", x.now(1), 23);
        Due.due("no SKIN", x.now(2), 0);
        Due.due("30 at most", x.stove(20), 0);
        Due.due("heat", x.now(1), 30);
        Due.due("it is 30", x.stove(1), 1);
        Due.due("stove(0)", x.stove(0), -1);
        Due.due("stove(21)", x.stove(21), -1);
        Due.due("stove(-5)", x.stove(-5), -1);
    }

    private static void daysGo() {
        PorridgeSea x = Due.made("heat 10;cools 4;skin 1;boat cup 0 0 1 3;boat mug 1 1 0 2;");
        x.row(1, 0);
        Due.due("days(1)", x.days(1), 1);
        Due.due("DAY", x.now(0), 1);
        Due.due("heat", x.now(1), 6);
        Due.due("it sinks", x.boat(0, 5), 1);
        Due.due("it does not", x.boat(1, 5), 0);
        Due.due("SPOONS again", x.boat(1, 4), 2);
        x.flour(0, 0, 1);
        Due.due("days(1)", x.days(1), 1);
        Due.due("it came up", x.boat(0, 5), 0);
        Due.due("days(2)", x.days(2), 2);
        Due.due("0 at least", x.now(1), 0);
        Due.due("SPOONS alone are no act", x.now(7), 1);
        Due.due("days(0)", x.days(0), -1);
        Due.due("days(61)", x.days(61), -1);
        Due.due("days(-1)", x.days(-1), -1);
        Due.due("days(60)", x.days(60), 60);
        Due.due("DAY", x.now(0), 64);
        PorridgeSea skins = Due.made("heat 3;cools 1;skin 2;boat cup 0 0 1 3;");
        skins.days(2);
        Due.due("the SKIN of the second DAY holds it", skins.boat(0, 5), 0);
        PorridgeSea sinks = Due.made("heat 4;cools 1;skin 2;boat cup 0 0 1 3;");
        sinks.days(2);
        Due.due("it is not yet there on two", sinks.boat(0, 5), 2);
        sinks.days(1);
        Due.due("it is there on the third", sinks.boat(0, 5), 0);
    }

    private static void eatenBoats() {
        PorridgeSea x = Due.made("heat 9;cools 0;lump rock 2 2;boat cup 0 0 1 3;boat mug 0 0 0 3;");
        x.row(0, 0);
        x.days(2);
        Due.due("not yet", x.now(3), 0);
        Due.due("CHART", Due.chart(x, 0), "cup at 1 0 sinks 2");
        x.days(1);
        Due.due("EATEN", x.now(3), 1);
        Due.due("DEPTH", x.boat(0, 5), 3);
        Due.due("EATEN", x.boat(0, 6), 1);
        Due.due("AFLOAT", x.boat(0, 7), 0);
        Due.due("SPOONS", x.boat(0, 4), 3);
        Due.due("row", x.row(0, 0), 1);
        Due.due("row over the rim", x.row(0, 3), 1);
        Due.due("row to no SIDE", x.row(0, 4), -1);
        Due.due("stir", x.stir(0, 0, 0), 0);
        Due.due("where it was last", x.boat(0, 0), 1);
        Due.due("the other went", x.boat(1, 0), 1);
        x.flour(1, 0, 9);
        x.days(1);
        Due.due("it stays EATEN", x.boat(0, 5), 3);
        Due.due("AFLOAT", x.now(4), 2);
        Due.due("CHART", Due.chart(x, 0), "cup eaten");
        Due.due("way", x.way(0, 0), -1);
        Due.due("meet", x.meet(0, 0), -1);
    }

    private static void lastDay() {
        PorridgeSea x = Due.made("cools 0;boat cup 0 0 0 1;");
        for (int i = 0; i < 6; i++) {
            x.days(60);
        }
        Due.due("days(39)", x.days(39), 39);
        Due.due("days(5) at 399", x.days(5), 1);
        Due.due("DAY", x.now(0), 400);
        Due.due("days(1) at 400", x.days(1), 0);
        Due.due("days(0) at 400", x.days(0), -1);
        Due.due("drawn(1, 1) at 400", x.drawn(1, 1), 0);
        Due.due("nothing was drawn", x.now(6) + x.now(7), 0);
        Due.due("row at 400", x.row(0, 0), 0);
        Due.due("7 more behind row()", x.undo(), 7);
        Due.due("days() of 0 are not kept", x.undo(), 6);
        Due.due("DAY", x.now(0), 399);
    }

    private static void undoing() {
        PorridgeSea x = Due.made(SEA);
        String[] states = new String[9];
        states[0] = Due.state(x);
        x.stir(1, 0, 1);
        states[1] = Due.state(x);
        x.row(2, 0);
        states[2] = Due.state(x);
        x.flour(1, 1, 2);
        states[3] = Due.state(x);
        x.milk(1, 1, 1);
        states[4] = Due.state(x);
        x.stove(3);
        states[5] = Due.state(x);
        x.days(2);
        states[6] = Due.state(x);
        x.drawn(3, 77);
        states[7] = Due.state(x);
        Due.book(x, "stove 1;day 1;", 1);
        states[8] = Due.state(x);
        x.stir(0, 9, 0);
        x.row(0, 9);
        x.flour(0, 0, 0);
        x.milk(9, 9, 1);
        x.stove(0);
        x.days(0);
        x.drawn(0, 1);
        Due.book(x, "stove 1;", 0);
        Due.book(x, "stove 99;", 1);
        Due.due("refused acts change nothing", Due.state(x), states[8]);
        for (int i = 7; i >= 0; i--) {
            Due.due("undo()", x.undo(), i);
            Due.due("as it was", Due.state(x), states[i]);
        }
        Due.due("no more", x.undo(), -1);
        for (int i = 0; i < 11; i++) {
            x.stir(0, i % 3, 0);
        }
        for (int i = 7; i >= 0; i--) {
            Due.due("8 are kept", x.undo(), i);
        }
        Due.due("no more", x.undo(), -1);
        Due.due("3 STIRS stay", x.now(6), 3);
        x.stove(1);
        Due.book(x, "", 1);
        Due.due("an empty BOOK was lived", x.undo(), 1);
        Due.sentence(x, "afloat");
        x.undo();
        Due.due("the SENTENCE is not undone", x.said(-1) >= 0, true);
        PorridgeSea cold = Due.made("heat 0;");
        cold.stir(0, 0, 0);
        Due.due("what was not done is not undone", cold.undo(), -1);
    }

    private static void aNewSea() {
        PorridgeSea x = Due.made(SEA);
        Due.sentence(x, "afloat");
        x.stir(0, 0, 0);
        x.row(2, 0);
        x.days(3);
        Due.book(x, "stove 9;stir row 0 on;cup east;day 2;", 0);
        x.odds(0, 1, 1);
        Due.sea(x, SEA);
        Due.due("a new SEA", Due.state(x), Due.state(Due.made(SEA)));
        Due.due("no SENTENCE", x.said(-1), -1);
        Due.due("nothing to undo", x.undo(), -1);
        x.stir(0, 0, 0);
        Due.sentence(x, "afloat");
        PorridgeSea y = Due.made("sea 6 6;cools 0;thick 0 0 1;thick 5 5 1;boat cup 1 1 9 1;");
        Due.book(y, "day 2;", 0);
        Due.sea(y, "sea 6 6;boat cup 1 1 9 1;");
        Due.due("no BOAT has sunk", y.boat(0, 5), 0);
        Due.due("all of it thin", y.now(5), 0);
        Due.sea(x, "?");
        Due.due("the SENTENCE stays", x.said(-1) >= 0, true);
        Due.due("acts stay", x.undo(), 0);
    }

    private static void costAndSkin() {
        PorridgeSea x = Due.made("sea 5 2;thick 0 0 2;thick 1 0 3;thick 2 0 5;thick 3 0 6;thick 4 0 8;thick 0 1 9;");
        int[] costs = {1, 2, 2, 3, 3};
        for (int i = 0; i < 5; i++) {
            Due.due("cost(" + i + ", 0)", x.cost(i, 0), costs[i]);
        }
        Due.due("cost(0, 1)", x.cost(0, 1), 4);
        Due.due("cost(1, 1)", x.cost(1, 1), 1);
        Due.due("cost(5, 0)", x.cost(5, 0), -1);
        Due.due("cost(0, 2)", x.cost(0, 2), -1);
        Due.due("cost(-1, 0)", x.cost(-1, 0), -1);
        Due.due("cost(0, -1)", x.cost(0, -1), -1);
        Due.due("skin()", x.skin(), 7);
        x.days(7);
        Due.due("cost under a SKIN", x.cost(0, 1), 1);
        Due.due("skin()", x.skin(), 0);
        Due.due("cut up", Due.made("heat 10;cools 3;skin 2;").skin(), 3);
        Due.due("even", Due.made("heat 10;cools 4;skin 2;").skin(), 2);
        Due.due("never", Due.made("heat 10;cools 0;skin 9;").skin(), -1);
        Due.due("it is there", Due.made("heat 10;cools 0;skin 10;").skin(), 0);
        Due.due("skin at 0", Due.made("heat 9;cools 5;skin 0;").skin(), 2);
        PorridgeSea late = Due.made("heat 30;cools 1;skin 10;");
        for (int i = 0; i < 6; i++) {
            late.days(60);
        }
        late.days(19);
        late.stove(20);
        late.stove(20);
        Due.due("on DAY 399 of 400", late.skin(), 20);
        late.days(1);
        Due.due("by DAY 400", late.skin(), 19);
        late.stove(1);
        Due.due("on DAY 400", late.skin(), 20);
        late.days(1);
        late.stove(1);
        Due.due("not by DAY 400", late.skin(), -1);
    }

    private static void counts() {
        PorridgeSea x = Due.made("sea 5 6;cools 4;skin 8;lump a 0 0;lump b 1 0;boat c 0 0 0 1;");
        int[] counts = {5, 6, 2, 1, 4, 8, 0};
        for (int what = 0; what < 7; what++) {
            Due.due("count(" + what + ")", x.count(what), counts[what]);
        }
        Due.due("count(7)", x.count(7), -1);
        Due.due("count(-1)", x.count(-1), -1);
        x.feed(0, 0, 0, 0, 0);
        Due.due("count(6)", x.count(6), 20);
        x.end(3);
        Due.due("count(6)", x.count(6), 3);
        x.sunk();
        Due.due("the tape behind sunk()", x.count(6), 0);
    }
}

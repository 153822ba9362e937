/** The LINES of a SEA and what is so in it: the Terms of a SEA, promises 1, 4, 6 to 9, and 41. */
final class SeaEdgeTest {
    private SeaEdgeTest() {
    }

    public static void main(String[] args) {
        aNewObjectBesideOthers();
        sizes();
        cellsOfEverySize();
        sizeOnceAndAhead();
        thickness();
        lumps();
        boats();
        settings();
        namesToldOnce();
        namesThatAreWords();
        sixOfASort();
        theFullestSea();
        theFirstFault();
        faultsLeaveAll();
        aNewSea();
        factsOfLumps();
        factsOfBoats();
        factsOfNow();
        counts();
        Due.close("SeaEdgeTest");
    }

    private static void fine(String text, int answer) {
        Due.fine(new PorridgeSea(), Due.SEA, text, answer);
    }

    private static void fault(String text, int kind, int place) {
        Due.fault(new PorridgeSea(), Due.SEA, text, kind, place);
    }

    private static void range(String ahead, String behind, int least, int most) {
        Due.range(new PorridgeSea(), Due.SEA, ahead, behind, least, most);
    }

    /** Promise 1: "A SEA of 4 by 4, all of it thin, without LUMPS and BOATS; an empty tape." */
    private static void aNewObjectBesideOthers() {
        PorridgeSea other = Due.made("sea 6 6;heat 30;thick 5 5 9;lump a 0 0;lump b 3 3;boat c 2 2 1 1;");
        other.image(0);
        other.image(1);
        other.way(0, 0);
        other.meet(0, 0);
        other.fleet(1);
        other.chart(0);
        other.stove(1);
        Due.sunk(other, 0, 1);
        Due.book(other, "flour 0 0 1;milk 5 5 9;milk 5 5 1;", 1);
        Due.sentence(other, "landed");
        other.feed(1, 2, 3, 4, 5);
        PorridgeSea x = new PorridgeSea();
        Due.due("a new object", Due.state(x), "0000/0000/0000/0000 0 10 0 0 0 0 0 0 4 4 0 0 1 3");
        int[] told = {x.count(6), x.fault(), x.undo(), x.wayAt(0), x.wayDays(), x.meetAt(0, 0), x.sunkAt(0), x.send(),
            x.fleets(), x.byteAt(0), x.told(0), x.told(1), x.told(2), x.told(3), x.said(-1), x.said(0)};
        for (int i = 0; i < told.length; i++) {
            Due.due("answer " + i + " of a new object", told[i], i < 2 ? 0 : -1);
        }
        Due.due("nothing is kept", x.restore(0) || x.restore(1), false);
        Due.due("the other's tape", other.count(6), 20);
        Due.due("the other's thickness", other.now(5), 1);
    }

    /** "'sea' WIDE HIGH (2 to 6 each; .. 4 by 4 without)" */
    private static void sizes() {
        range("sea ", " 2;", 2, 6);
        range("sea 2 ", ";", 2, 6);
        range("sea 6 ", ";", 2, 6);
        for (int wide = 0; wide <= 8; wide++) {
            for (int high = 0; high <= 8; high++) {
                String text = "sea " + wide + " " + high + ";";
                if (wide < 2 || wide > 6) {
                    fault(text, 2, 4);
                } else if (high < 2 || high > 6) {
                    fault(text, 2, 6);
                } else {
                    PorridgeSea x = Due.made(text);
                    Due.due("WIDE of " + text, x.count(0), wide);
                    Due.due("HIGH of " + text, x.count(1), high);
                }
            }
        }
        PorridgeSea x = Due.made("heat 5;");
        Due.due("WIDE without", x.count(0), 4);
        Due.due("HIGH without", x.count(1), 4);
    }

    /** "X 0 to WIDE less 1, Y 0 to HIGH less 1"; promise 6: "NONE: no such one" */
    private static void cellsOfEverySize() {
        for (int wide = 2; wide <= 6; wide++) {
            for (int high = 2; high <= 6; high++) {
                String size = "sea " + wide + " " + high + ";";
                rimOfLines(size, wide, high);
                rimOfCells(Due.made(size + "thick " + (wide - 1) + " " + (high - 1) + " 7;thick 0 0 5;"), wide, high);
            }
        }
        rimOfLines("", 4, 4);
        rimOfCells(Due.made("thick 3 3 7;thick 0 0 5;"), 4, 4);
    }

    private static void rimOfLines(String size, int wide, int high) {
        String[] lines = {"thick ", " 1;", "lump rock ", ";", "boat cup ", " 0 1;"};
        for (int i = 0; i < lines.length; i += 2) {
            range(size + lines[i], " 0" + lines[i + 1], 0, wide - 1);
            range(size + lines[i] + "0 ", lines[i + 1], 0, high - 1);
            range(size + lines[i], " " + (high - 1) + lines[i + 1], 0, wide - 1);
            range(size + lines[i] + (wide - 1) + " ", lines[i + 1], 0, high - 1);
        }
    }

    private static void rimOfCells(PorridgeSea x, int wide, int high) {
        for (int column = -2; column < 9; column++) {
            for (int row = -2; row < 9; row++) {
                boolean within = column >= 0 && column < wide && row >= 0 && row < high;
                boolean last = column == wide - 1 && row == high - 1;
                int thick = !within ? -1 : last ? 7 : column == 0 && row == 0 ? 5 : 0;
                Due.due("thick(" + column + ", " + row + ")", x.thick(column, row), thick);
                int cost = !within ? -1 : last ? 3 : column == 0 && row == 0 ? 2 : 1;
                Due.due("cost(" + column + ", " + row + ")", x.cost(column, row), cost);
            }
        }
        for (int far : Due.FAR) {
            Due.due("thick(" + far + ", 0)", x.thick(far, 0), -1);
            Due.due("thick(0, " + far + ")", x.thick(0, far), -1);
            Due.due("thick(" + far + ", " + far + ")", x.thick(far, far), -1);
            Due.due("cost(" + far + ", 0)", x.cost(far, 0), -1);
            Due.due("cost(0, " + far + ")", x.cost(0, far), -1);
        }
        Due.due("all thickness", x.now(5), 12);
    }

    /** "once, ahead of all with X, Y"; "'sea' behind a LINE with X, Y (at the WORD)" */
    private static void sizeOnceAndAhead() {
        fault("sea 2 2;sea 2 2;", 3, 8);
        fault("sea 2 2;sea", 3, 8);
        fault("sea 2 2;heat 1;sea 9 9;", 3, 15);
        fault("thick 0 0 1;sea 2 2;", 3, 12);
        fault("lump rock 0 0;sea 2 2;", 3, 14);
        fault("boat cup 0 0 0 1;sea 2 2;", 3, 17);
        fault("thick 0 0 1;heat 1;\nsea ?", 3, 20);
        fault("sea 2 2;thick 0 0 1;sea 2 2;", 3, 20);
        fine("heat 1;sea 2 2;", 2);
        fine("cools 1;sea 2 2;", 2);
        fine("skin 1;sea 2 2;", 2);
        fine("skin 1;heat 1;cools 1;sea 2 2;thick 1 1 1;", 5);
        fault("sea 2 2;thick 2 1 1;", 2, 14);
    }

    /** "'thick' X Y N (1 to 9; each cell once; 0 without)"; "a cell told thick again .. (at its Y)" */
    private static void thickness() {
        range("thick 0 0 ", ";", 1, 9);
        range("sea 6 6;thick 5 5 ", ";", 1, 9);
        StringBuilder all = new StringBuilder("sea 6 6;");
        for (int cell = 0; cell < 36; cell++) {
            all.append("thick ").append(cell % 6).append(" ").append(cell / 6).append(" 9;");
        }
        PorridgeSea x = Due.made(all.toString());
        Due.due("all cells 9 thick", x.now(5), 324);
        for (int cell = 0; cell < 36; cell++) {
            String again = "thick " + cell % 6 + " " + cell / 6;
            Due.fault(x, Due.SEA, all + again + " 1;", 3, all.length() + 8);
            Due.fault(x, Due.SEA, all + again, 3, all.length() + 8);
        }
        fine("thick 1 2 1;thick 2 1 1;", 2);
        fault("thick 1 2 1;thick 1 2 1;", 3, 20);
        fault("thick 1 2 1;thick 1 4 1;", 2, 20);
        Due.due("0 without", Due.made("thick 0 0 1;").now(5), 1);
    }

    /** "'lump' NAME X Y (one in a cell at most)"; "a second LUMP in a cell (at its Y)" */
    private static void lumps() {
        fault("lump rock 1 2;lump isle 1 2;", 3, 26);
        fault("lump rock 1 2;lump isle 1 2", 3, 26);
        fault("lump rock 0 0;lump a 1 0;lump b 0 0;", 3, 34);
        fine("lump rock 1 2;lump isle 2 1;", 2);
        fine("lump rock 1 2;lump isle 1 1;lump skerry 1 3;lump a 0 2;lump b 2 2;", 5);
        fine("thick 1 2 3;lump rock 1 2;", 2);
        fine("lump rock 1 2;thick 1 2 3;", 2);
        fine("boat cup 1 2 0 1;lump rock 1 2;", 2);
        fine("lump rock 1 2;boat cup 1 2 0 1;boat mug 1 2 0 1;", 3);
    }

    /** "'boat' NAME X Y LOAD SPOONS (0 to 9; 1 to 9)" */
    private static void boats() {
        range("boat cup 0 0 ", " 1;", 0, 9);
        range("boat cup 0 0 0 ", ";", 1, 9);
        for (int n = 1; n <= 9; n++) {
            PorridgeSea x = Due.made("boat cup 0 0 " + n + " " + (10 - n) + ";");
            Due.due("LOAD", x.boat(0, 2), n);
            Due.due("all SPOONS", x.boat(0, 3), 10 - n);
            Due.due("SPOONS left", x.boat(0, 4), 10 - n);
        }
        Due.due("without a LOAD", Due.made("boat cup 0 0 0 9;").boat(0, 2), 0);
        fine("boat a 0 0 0 1;boat b 0 0 0 1;boat c 0 0 0 1;boat d 0 0 0 1;boat e 0 0 0 1;boat f 0 0 0 1;", 6);
    }

    /** "'heat' N (0 to 30; once; 10 without)", "'cools' N (0 to 5; ..)", "'skin' N (0 to 30; ..)" */
    private static void settings() {
        range("heat ", ";", 0, 30);
        range("cools ", ";", 0, 5);
        range("skin ", ";", 0, 30);
        for (int n = 0; n <= 30; n++) {
            PorridgeSea x = Due.made("heat " + n + ";cools " + n % 6 + ";skin " + (30 - n) + ";");
            Due.due("the heat", x.now(1), n);
            Due.due("'cools'", x.count(4), n % 6);
            Due.due("'skin'", x.count(5), 30 - n);
        }
        String[] words = {"heat", "cools", "skin"};
        for (String word : words) {
            String line = word + " 1;";
            fault(line + line, 3, line.length());
            fault(line + word, 3, line.length());
            fault(line + word + " 99;", 3, line.length());
            fault(line + "sea 2 2;thick 0 0 1;\n" + line, 3, line.length() + 21);
        }
        PorridgeSea x = Due.made("sea 2 2;");
        Due.due("heat without", x.now(1), 10);
        Due.due("'cools' without", x.count(4), 1);
        Due.due("'skin' without", x.count(5), 3);
        fine("skin 1;cools 1;heat 1;", 3);
    }

    /** "told once"; "3 a NAME told twice" */
    private static void namesToldOnce() {
        String[] lines = {"lump rock 0 0;", "boat rock 0 0 0 1;"};
        for (String first : lines) {
            for (String second : lines) {
                String other = second.replace("0 0", "1 1");
                fault(first + other, 3, first.length() + 5);
                fault(first + "lump isle 2 2;boat cup 2 2 0 1;\n" + other, 3, first.length() + 37);
                fault(first + second.substring(0, 9), 3, first.length() + 5);
                fine(first + other.replace("rock", "rocks"), 2);
                fine(first + other.replace("rock", "roc"), 2);
                fine(first + other.replace("rock", "kcor"), 2);
            }
        }
    }

    /** "none of those told here, in a BOOK or a SENTENCE" */
    private static void namesThatAreWords() {
        String words = "sea thick lump boat heat cools skin stir row column on back east south west north flour milk "
                + "stove day or and not eaten afloat landed by load depth left number";
        for (String word : words.split(" ")) {
            fault("lump " + word + " 0 0;", 1, 5);
            fault("boat " + word + " 0 0 0 1;", 1, 5);
            String less = word.substring(1);
            if (!(" " + words + " ").contains(" " + less + " ")) {
                fine("lump " + less + " 0 0;", 1);
            }
            if (word.length() < 7) {
                fine("boat " + word + "s 0 0 0 1;", 1);
            }
        }
        fine("lump at 0 0;lump sinks 0 1;lump x 0 2;lump y 1 0;lump wide 1 1;lump high 1 2;", 6);
        fine("boat line 0 0 0 1;boat name 0 1 0 1;boat n 0 2 0 1;boat spoons 1 0 0 1;boat side 1 1 0 1;", 5);
    }

    /** "6 LUMPS, 6 BOATS at most"; "4 one more than there may be of a sort .. (at the LINE's first WORD)" */
    private static void sixOfASort() {
        String lumps = "";
        String boats = "";
        for (int i = 0; i < 6; i++) {
            fine(lumps, i);
            fine(boats, i);
            lumps += "lump " + (char) ('a' + i) + " " + i % 4 + " " + i / 4 + ";";
            boats += "boat " + (char) ('p' + i) + " " + i % 4 + " " + i / 4 + " 0 1;";
        }
        fine(lumps, 6);
        fine(boats, 6);
        fine(lumps + boats, 12);
        fine(boats + lumps, 12);
        String[] sevenths = {"g 3 3;", "a 3 3;", "g 0 0;", "g 9 9;", "sea", "", "?", ";"};
        for (String seventh : sevenths) {
            fault(lumps + "lump " + seventh, 4, lumps.length());
            fault(lumps + boats + "\n lump " + seventh, 4, lumps.length() + boats.length() + 2);
        }
        fault(boats + "boat z 0 0 0 1;", 4, boats.length());
        fault(boats + "boat", 4, boats.length());
        fault(lumps + boats + " boat ?", 4, lumps.length() + boats.length() + 1);
        fault(boats + lumps + "lump", 4, lumps.length() + boats.length());
        PorridgeSea x = Due.made(lumps + boats);
        for (int i = 0; i < 6; i++) {
            Due.due("numbered from 0", x.lump(i, 0) + 4 * x.lump(i, 1), i);
            Due.due("numbered from 0", x.boat(i, 0) + 4 * x.boat(i, 1), i);
        }
    }

    /** As many LINES as there can be, in as many bytes as there may be. */
    private static void theFullestSea() {
        StringBuilder text = new StringBuilder("heat 30;cools 5;skin 30;sea 6 6;");
        for (int cell = 35; cell >= 0; cell--) {
            text.append("thick ").append(cell % 6).append(" ").append(cell / 6).append(" ").append(cell % 9 + 1);
            text.append(";");
        }
        for (int i = 0; i < 6; i++) {
            text.append("lump l").append((char) ('a' + i)).append(" ").append(i).append(" ").append(i).append(";");
            text.append("boat b").append((char) ('a' + i)).append(" ").append(i).append(" 5 9 9;");
        }
        String full = text + " ".repeat(899 - text.length() + 1);
        PorridgeSea x = new PorridgeSea();
        Due.fine(x, Due.SEA, full, 52);
        Due.due("the last cell", x.thick(5, 5), 9);
        Due.due("all thickness", x.now(5), 180);
        Due.due("LUMPS", x.count(2), 6);
        Due.due("BOATS", x.count(3), 6);
        Due.fault(x, Due.SEA, full + " ", 1, 900);
        String late = text.substring(0, text.length() - 1);
        Due.fine(x, Due.SEA, late + " ".repeat(899 - late.length()) + ";", 52);
        Due.fault(x, Due.SEA, late + " ".repeat(900 - late.length()) + ";", 1, 900);
    }

    /** "FAULTS, the first along the text, of one TOKEN the least" */
    private static void theFirstFault() {
        fault("heat 31;heat 31;?", 2, 5);
        fault("heat 5 5;heat 31;", 1, 7);
        fault("lump rock 0 0;lump rock 9 9;", 3, 19);
        fault("lump rock 0 0;lump isle 9 0;", 2, 24);
        fault("lump rock 0 0;lump isle 0 9;", 2, 26);
        fault("lump rock 0 0;lump isle 0 0 5;", 3, 26);
        fault("lump rock 0 0;lump sea 0 0;", 1, 19);
        fault("thick 0 0 1;thick 0 0 0;", 3, 20);
        fault("boat cup 4 4 10 0;", 2, 9);
        fault("boat cup 3 4 10 0;", 2, 11);
        fault("boat cup 3 3 10 0;", 2, 13);
        fault("boat cup 3 3 9 0;", 2, 15);
        fault("boat cup 3 3 9 1 1;", 1, 17);
        fault("sea 1 1;", 2, 4);
        fault("sea 2 1;", 2, 6);
        fault("sea 2 2", 1, 7);
    }

    /** "-1 less the place of a FAULT: it stays" */
    private static void faultsLeaveAll() {
        PorridgeSea x = Due.made("sea 3 2;thick 0 0 3;lump rock 1 1;boat cup 0 0 9 9;heat 20;");
        Due.sentence(x, "by rock");
        x.row(0, 0);
        x.days(2);
        String[] faults = {"?", "sea 6 6;?", "sea 2 2;thick 0 0 9;lump isle 0 0;boat mug 0 0 0 1;heat 31;",
            "heat 1;cools 1;skin 30;heat 1;", "sea 2 2"};
        for (String text : faults) {
            String before = Due.state(x);
            String asked = Due.questions(x);
            Due.due("a FAULT", Due.sea(x, text) < 0, true);
            Due.due("it stays", Due.state(x), before);
            Due.due("the SENTENCE stays", x.said(0), 0);
            Due.due("the NAME stays", Due.chart(x, 0), "cup at 1 0 sinks 2");
            Due.due("the NAMES stay in a SENTENCE", Due.sentence(x, "by rock"), 1);
            Due.due("a FAULT", Due.sea(x, text) < 0, true);
            Due.due("the NAMES stay in a BOOK", Due.book(x, "cup east;cup west;", 0), -1);
            Due.due("a FAULT", Due.sea(x, text) < 0, true);
            Due.due("what is asked stays", Due.questions(x), asked);
        }
        Due.due("acts can be undone", x.undo(), 1);
        Due.due("acts can be undone", x.undo(), 0);
        PorridgeSea y = Due.made("sea 5 5;thick 4 0 3;thick 4 4 2;lump rock 1 1;boat cup 0 0 9 9;heat 20;");
        String[] others = {"?", "sea 2 2;heat 30;cools 0;skin 0;?", "sea 6 6;heat 0;cools 5;skin 30;thick 5 5 9;"
                + "lump a 0 0;lump b 0 1;boat c 0 0 9 1;boat d 0 0 9 1;?"};
        for (String text : others) {
            questionsStay(x, text, 1);
            questionsStay(y, text, 4);
        }
    }

    /** Each question by itself, right behind a SEA with a FAULT. */
    private static void questionsStay(PorridgeSea x, String text, int lastRow) {
        int[] before = new int[14];
        int[] behind = new int[14];
        for (int i = 0; i < before.length; i++) {
            before[i] = ask(x, i, lastRow);
        }
        for (int i = 0; i < behind.length; i++) {
            Due.due("a FAULT", Due.sea(x, text) < 0, true);
            behind[i] = ask(x, i, lastRow);
            Due.due("question " + i + " behind '" + text + "'", behind[i], before[i]);
        }
    }

    private static int ask(PorridgeSea x, int question, int lastRow) {
        switch (question) {
            case 0:
                return x.cost(2, 1);
            case 1:
                return x.cost(3, 2);
            case 2:
                return x.skin();
            case 3:
                return x.land(0);
            case 4:
                return x.land(1);
            case 5:
                return x.mean(0, 0);
            case 6:
                return x.mean(lastRow, 0);
            case 7:
                return x.fleet(9);
            case 8:
                return x.odds(0, 30, 1);
            case 9:
                return x.odds(1, 30, 1);
            case 10:
                return x.way(0, 0);
            case 11:
                return x.meet(0, 0);
            case 12:
                return Due.sentence(x, "by rock");
            default:
                return Due.sunk(x, 0, 1);
        }
    }

    /** "A new SEA: DAY 0, no BOAT has sunk or been rowed, no SENTENCE." */
    private static void aNewSea() {
        String text = "sea 3 2;thick 0 0 3;lump rock 1 1;boat cup 0 0 9 9;heat 20;";
        PorridgeSea x = Due.made(text);
        Due.sentence(x, "by rock");
        x.row(0, 0);
        x.stir(1, 1, 0);
        x.days(60);
        Due.due("EATEN", x.now(3), 1);
        Due.fine(x, Due.SEA, text, 5);
        Due.due("a new SEA", Due.state(x), Due.state(Due.made(text)));
        int[] now = {0, 20, 0, 0, 0, 3, 0, 0};
        for (int what = 0; what < 8; what++) {
            Due.due("now(" + what + ")", x.now(what), now[what]);
        }
        Due.due("SPOONS left", x.boat(0, 4), 9);
        Due.due("DEPTH", x.boat(0, 5), 0);
        Due.due("no SENTENCE", x.said(-1), -1);
        Due.due("no SENTENCE", x.said(0), -1);
    }

    /** Promise 7: "NONE: no such ones" */
    private static void factsOfLumps() {
        PorridgeSea x = Due.made("sea 6 5;lump a 5 0;lump b 0 4;");
        int[][] cells = {{5, 0}, {0, 4}};
        for (int l = -2; l < 8; l++) {
            for (int what = -2; what < 4; what++) {
                boolean is = l >= 0 && l < 2 && what >= 0 && what < 2;
                Due.due("lump(" + l + ", " + what + ")", x.lump(l, what), is ? cells[l][what] : -1);
            }
        }
        for (int far : Due.FAR) {
            Due.due("lump(" + far + ", 0)", x.lump(far, 0), -1);
            Due.due("lump(0, " + far + ")", x.lump(0, far), -1);
        }
        Due.due("without LUMPS", new PorridgeSea().lump(0, 0), -1);
        Due.sea(x, "lump c 1 1;");
        Due.due("one of the SEA ahead", x.lump(1, 0), -1);
    }

    /** Promise 8: "NoSuchElementException: no such ones"; "A call that throws changes nothing." */
    private static void factsOfBoats() {
        PorridgeSea x = Due.made("cools 0;boat a 3 0 1 9;boat b 0 3 0 1;");
        int[][] facts = {{3, 0, 1, 9, 9, 0, 0, 0}, {0, 3, 0, 1, 1, 0, 0, 1}};
        String before = Due.state(x);
        for (int b = -2; b < 8; b++) {
            for (int what = -2; what < 10; what++) {
                if (b >= 0 && b < 2 && what >= 0 && what < 8) {
                    Due.due("boat(" + b + ", " + what + ")", x.boat(b, what), facts[b][what]);
                } else {
                    Due.boatThrows(x, b, what);
                }
            }
        }
        for (int far : Due.FAR) {
            Due.boatThrows(x, far, 0);
            Due.boatThrows(x, 0, far);
        }
        Due.due("a call that throws changes nothing", Due.state(x), before);
        Due.boatThrows(new PorridgeSea(), 0, 0);
        x.row(0, 2);
        int[] depths = {1, 2, 3, 3};
        for (int day = 0; day < 4; day++) {
            x.days(1);
            Due.due("DEPTH", x.boat(0, 5), depths[day]);
            Due.due("EATEN", x.boat(0, 6), day < 2 ? 0 : 1);
        }
        x.stir(0, 0, 0);
        x.stir(1, 2, 0);
        Due.due("X where it was last", x.boat(0, 0), 2);
        Due.due("Y where it was last", x.boat(0, 1), 0);
        x.flour(2, 0, 9);
        Due.due("an EATEN one is not AFLOAT", x.boat(0, 7), 0);
        Due.sea(x, "boat c 1 1 0 1;");
        Due.boatThrows(x, 1, 0);
    }

    /** Promise 9: "NONE for another what." */
    private static void factsOfNow() {
        PorridgeSea x = Due.made("sea 6 6;cools 0;boat a 0 0 0 1;boat b 0 0 1 1;boat c 0 0 0 1;boat d 0 0 1 1;"
                + "boat e 0 0 0 1;boat f 0 0 1 1;");
        Due.due("all bits of AFLOAT ones", x.now(4), 21);
        x.days(3);
        Due.due("all bits of EATEN ones", x.now(3), 42);
        Due.due("the DAY", x.now(0), 3);
        for (int what = -3; what < 0; what++) {
            Due.due("now(" + what + ")", x.now(what), -1);
        }
        for (int what = 8; what < 12; what++) {
            Due.due("now(" + what + ")", x.now(what), -1);
        }
        for (int far : Due.FAR) {
            Due.due("now(" + far + ")", x.now(far), -1);
        }
        PorridgeSea six = Due.made("boat a 0 0 0 1;boat b 0 0 0 1;boat c 0 0 0 1;boat d 0 0 0 1;boat e 0 0 0 1;"
                + "boat f 0 0 0 1;");
        Due.due("six AFLOAT", six.now(4), 63);
    }

    /** Promise 41: "NONE for another what." */
    private static void counts() {
        PorridgeSea x = Due.made("sea 2 6;cools 5;skin 30;lump a 0 0;boat b 0 0 0 1;boat c 0 0 0 1;");
        int[] counts = {2, 6, 1, 2, 5, 30, 0};
        for (int what = -3; what < 11; what++) {
            Due.due("count(" + what + ")", x.count(what), what < 0 || what > 6 ? -1 : counts[what]);
        }
        for (int far : Due.FAR) {
            Due.due("count(" + far + ")", x.count(far), -1);
        }
        for (int i = 1; i <= 48; i++) {
            x.feed(0, 0, 0, 0, 0);
            Due.due("bytes of the tape", x.count(6), Math.min(940, 20 * i));
        }
        x.end(0);
        Due.due("bytes of the tape", x.count(6), 0);
    }
}

/** TOKENS and FAULTS of the three texts: promises 2 to 5, 35 and 37. */
final class TextTest {
    private static final String ISLES = "lump rock 0 0;lump isle 1 0;boat cup 2 2 1 3;";

    private TextTest() {
    }

    public static void main(String[] args) {
        tapeIsFed();
        endCutsTokens();
        seasWithoutFault();
        seaTokens();
        seaNumbers();
        seaToldTwice();
        seaTooMany();
        tooManyBytes();
        bookFaults();
        sentenceFaults();
        names();
        faultIsOfTheLatest();
        Due.close("TextTest");
    }

    private static void tapeIsFed() {
        PorridgeSea x = new PorridgeSea();
        Due.due("end(0) of an empty tape", x.end(0), true);
        Due.due("end(1) of an empty tape", x.end(1), false);
        for (int i = 1; i <= 47; i++) {
            Due.due("feed", x.feed(0, 0, 0, 0, 0), 20 * i);
        }
        Due.due("feed beyond 940", x.feed(1, 2, 3, 4, 5), -1);
        Due.due("the tape", x.count(6), 940);
        Due.due("end(-1)", x.end(-1), false);
        Due.due("end(941)", x.end(941), false);
        Due.due("end(940)", x.end(940), true);
        Due.due("end(921)", x.end(921), true);
        Due.due("feed from 921", x.feed(0, 0, 0, 0, 0), -1);
        Due.due("end(920)", x.end(920), true);
        Due.due("feed from 920", x.feed(0, 0, 0, 0, 0), 940);
        PorridgeSea y = new PorridgeSea();
        y.feed(0x68656174, 0x2037203b, 0x636f6f6c, 0x7320343b, 0x20202020);
        Due.due("highest bytes first", y.sea(), 2);
        Due.due("heat", y.now(1), 7);
        Due.due("cools", y.count(4), 4);
        Due.due("the tape behind sea()", y.count(6), 0);
    }

    /** What stands behind the end of the tape is not read. */
    private static void endCutsTokens() {
        PorridgeSea x = new PorridgeSea();
        Due.tape(x, "heat 5;cools").end(7);
        Due.due("cut behind a LINE", x.sea(), 1);
        Due.tape(x, "eatenx").end(5);
        Due.due("cut within letters", x.sentence(), 1);
        Due.tape(x, "load < 199").end(8);
        Due.due("cut within digits", x.sentence(), 1);
        Due.tape(x, "heat    ").end(5);
        Due.due("cut within blanks", x.sea(), -1 - 5);
    }

    private static void seasWithoutFault() {
        PorridgeSea x = new PorridgeSea();
        Due.due("an empty SEA", Due.sea(x, ""), 0);
        Due.due("blanks", Due.sea(x, " \n \n"), 0);
        Due.due("no blanks where none must be", Due.sea(x, "heat 007;cools 0;skin 30;"), 3);
        Due.due("heat", x.now(1), 7);
        Due.due("many blanks", Due.sea(x, "\n\nsea\n 6   2\n;\nthick 5 1\n9 ; "), 2);
        Due.due("wide", x.count(0), 6);
        Due.due("high", x.count(1), 2);
        Due.due("thick", x.thick(5, 1), 9);
        Due.due("heat without", x.now(1), 10);
        Due.due("'sea' behind lines without cells", Due.sea(x, "heat 1;skin 0;cools 5;sea 2 6;"), 4);
        Due.due("wide", x.count(0), 2);
        Due.due("all cells thick", Due.sea(x, "sea 2 2;thick 0 0 1;thick 1 0 2;thick 0 1 3;thick 1 1 4;"), 5);
        Due.due("sum", x.now(5), 10);
        Due.due("names of 1 and 7", Due.sea(x, "lump a 0 0;boat abcdefg 0 0 0 1;boat at 0 0 9 9;boat sinks 3 3 0 1;"), 4);
        Due.due("boats", x.count(3), 3);
    }

    private static void seaFault(String text, int kind, int place) {
        PorridgeSea x = new PorridgeSea();
        x.flour(1, 2, 3);
        String before = Due.state(x);
        Due.due("sea() of '" + text + "'", Due.sea(x, text), -1 - place);
        Due.due("fault() of '" + text + "'", x.fault(), kind);
        Due.due("it stays", Due.state(x), before);
        Due.due("the tape is empty", x.count(6), 0);
    }

    private static void seaTokens() {
        seaFault("?", 1, 0);
        seaFault(";", 1, 0);
        seaFault("heat 1;;", 1, 7);
        seaFault("heat", 1, 4);
        seaFault("heat  \n", 1, 7);
        seaFault("heat 1", 1, 6);
        seaFault("heat 1 ", 1, 7);
        seaFault("heat 1.", 1, 6);
        seaFault("heat 1\r;", 1, 6);
        seaFault("heat\t1;", 1, 4);
        seaFault("heat1;", 1, 0);
        seaFault("heat 1a;", 1, 5);
        seaFault("heat 0001;", 1, 5);
        seaFault("heat x;", 1, 5);
        seaFault("heat heat;", 1, 5);
        seaFault("heat <;", 1, 5);
        seaFault("Heat 1;", 1, 0);
        seaFault("heaT 1;", 1, 0);
        seaFault("lump rocK 1 1;", 1, 8);
        seaFault("heat \u00e9;", 1, 5);
        seaFault("heat 1 2;", 1, 7);
        seaFault("12 heat;", 1, 0);
        seaFault("stir row 1 on;", 1, 0);
        seaFault("rock 1 1;", 1, 0);
        seaFault("lump abcdefgh 1 1;", 1, 5);
        seaFault("lump 1 1;", 1, 5);
        seaFault("lump rock 1;", 1, 11);
        seaFault("boat cup 1 1 1;", 1, 14);
        seaFault("sea 3;", 1, 5);
        seaFault("heat 1; ?", 1, 8);
        seaFault("heat -1;", 1, 5);
        seaFault("heat 1;\0", 1, 7);
    }

    private static void seaNumbers() {
        seaFault("sea 1 3;", 2, 4);
        seaFault("sea 7 3;", 2, 4);
        seaFault("sea 3 1;", 2, 6);
        seaFault("sea 3 7;", 2, 6);
        seaFault("sea 3 7 ?", 2, 6);
        seaFault("thick 4 0 1;", 2, 6);
        seaFault("thick 0 4 1;", 2, 8);
        seaFault("sea 3 2;thick 3 0 1;", 2, 14);
        seaFault("sea 3 2;thick 2 2 1;", 2, 16);
        seaFault("thick 0 0 0;", 2, 10);
        seaFault("thick 0 0 10;", 2, 10);
        seaFault("lump rock 4 0;", 2, 10);
        seaFault("lump rock 0 4;", 2, 12);
        seaFault("boat cup 4 0 0 1;", 2, 9);
        seaFault("boat cup 0 4 0 1;", 2, 11);
        seaFault("boat cup 0 0 10 1;", 2, 13);
        seaFault("boat cup 0 0 0 0;", 2, 15);
        seaFault("boat cup 0 0 0 10;", 2, 15);
        seaFault("heat 31;", 2, 5);
        seaFault("heat 999", 2, 5);
        seaFault("cools 6;", 2, 6);
        seaFault("skin 31;", 2, 5);
    }

    private static void seaToldTwice() {
        seaFault("sea 3 3;sea 3 3;", 3, 8);
        seaFault("heat 3;heat 3;", 3, 7);
        seaFault("cools 3;cools 3;", 3, 8);
        seaFault("skin 3;skin", 3, 7);
        seaFault("thick 0 0 1;sea 3 3;", 3, 12);
        seaFault("lump rock 0 0;sea 3 3;", 3, 14);
        seaFault("boat cup 0 0 1 1;sea 3 3;", 3, 17);
        seaFault("thick 1 2 1;thick 1 2 1;", 3, 20);
        seaFault("thick 1 2 1;thick 1  2 99;", 3, 21);
        seaFault("lump rock 1 2;lump isle 1 2;", 3, 26);
        seaFault("lump rock 1 2;lump rock 1 1;", 3, 19);
        seaFault("lump rock 1 2;boat rock 1 1 1 1;", 3, 19);
        seaFault("boat rock 1 1 1 1;boat rock 1 1 1 1;", 3, 23);
        seaFault("boat rock 1 1 1 1;lump rock 1 1;", 3, 23);
    }

    private static void seaTooMany() {
        StringBuilder lumps = new StringBuilder("sea 6 6;");
        StringBuilder boats = new StringBuilder("sea 6 6;");
        for (int i = 0; i < 6; i++) {
            lumps.append("lump ").append((char) ('a' + i)).append(" ").append(i).append(" 0;");
            boats.append("boat ").append((char) ('a' + i)).append(" ").append(i).append(" 0 1 1;");
        }
        PorridgeSea x = new PorridgeSea();
        Due.due("six lumps", Due.sea(x, lumps.toString()), 7);
        Due.due("six lumps", x.count(2), 6);
        Due.due("six boats", Due.sea(x, boats.toString()), 7);
        Due.due("six boats", x.count(3), 6);
        seaFault(lumps + "lump a 0 0;", 4, lumps.length());
        seaFault(lumps + " lump ?", 4, lumps.length() + 1);
        seaFault(boats + "boat a 0 0;", 4, boats.length());
    }

    private static String blanks(int n) {
        return " ".repeat(n);
    }

    private static void tooManyBytes() {
        PorridgeSea x = new PorridgeSea();
        String line = "heat 5;";
        Due.due("900 bytes", Due.sea(x, line + blanks(893)), 1);
        seaFault(line + blanks(894), 1, 900);
        seaFault(blanks(893) + line + "cools 1;", 1, 900);
        seaFault(blanks(894) + line, 1, 900);
        seaFault(blanks(896) + "heat 5;", 1, 900);
        seaFault(blanks(897) + "heaty5;", 1, 897);
        seaFault(blanks(899) + "heat 5;", 1, 900);
        seaFault(blanks(899) + "hear 5;", 1, 899);
        seaFault(blanks(894) + "heat 31;", 2, 899);
        seaFault(blanks(895) + "heat 31;", 1, 900);
        seaFault(blanks(900) + "?", 1, 900);
        seaFault(blanks(899) + "?" + blanks(20), 1, 899);
        seaFault(blanks(890) + "heat 5" + blanks(4), 1, 900);
        bookFault(blanks(400) + " ", 1, 400);
        bookFault(blanks(399) + "day 5;", 1, 400);
        bookFault(blanks(399) + "dax 5;", 3, 399);
        bookFault(blanks(395) + "day 61;", 2, 399);
        sentenceFault("eaten" + blanks(196), 1, 200);
        sentenceFault(blanks(197) + "eaten", 1, 200);
        sentenceFault(blanks(197) + "heaty", 1, 197);
        Due.due("400 bytes", Due.book(x, "day 1;" + blanks(394), 0), -1);
        Due.due("200 bytes", Due.sentence(x, blanks(195) + "eaten"), 1);
    }

    private static void bookFault(String text, int kind, int place) {
        PorridgeSea x = Due.made(ISLES);
        Due.book(x, "day 2;flour 5 5 1;", 1);
        String before = Due.state(x);
        Due.due("book(1) of '" + text + "'", Due.book(x, text, 1), -2 - place);
        Due.due("fault() of '" + text + "'", x.fault(), kind);
        Due.due("all stays", Due.state(x), before);
        Due.due("the tape is empty", x.count(6), 0);
        Due.due("told(0) stays", x.told(0), 29);
        Due.due("told(1) stays", x.told(1), 1);
        Due.due("told(2) stays", x.told(2), 2);
        Due.due("one act can be undone", x.undo(), 0);
    }

    private static void bookFaults() {
        bookFault(";", 1, 0);
        bookFault("sea 3 3;", 1, 0);
        bookFault("row 1;", 1, 0);
        bookFault("not;", 1, 0);
        bookFault("3;", 1, 0);
        bookFault("stir 1 on;", 1, 5);
        bookFault("stir rows 1 on;", 1, 5);
        bookFault("stir row on;", 1, 9);
        bookFault("stir stir 1 on;", 1, 5);
        bookFault("stir on 1 on;", 1, 5);
        bookFault("stir row 1 column;", 1, 11);
        bookFault("stir row 1 east;", 1, 11);
        bookFault("cup flour;", 1, 4);
        bookFault("cup back;", 1, 4);
        bookFault("stir row 6 on;", 2, 9);
        bookFault("stir column 6 on;", 2, 12);
        bookFault("stir row 5 off;", 1, 11);
        bookFault("stir row 5 1;", 1, 11);
        bookFault("stir row 5 on", 1, 13);
        bookFault("boat east;", 1, 0);
        bookFault("mug east;", 3, 0);
        bookFault("rock east;", 3, 0);
        bookFault("cup up;", 1, 4);
        bookFault("cup 0;", 1, 4);
        bookFault("cup on;", 1, 4);
        bookFault("cup east 1;", 1, 9);
        bookFault("flour 6 0 1;", 2, 6);
        bookFault("flour 0 6 1;", 2, 8);
        bookFault("flour 0 0 0;", 2, 10);
        bookFault("flour 0 0 10;", 2, 10);
        bookFault("milk 6 0 1;", 2, 5);
        bookFault("milk 0 6 1;", 2, 7);
        bookFault("milk 0 0 10;", 2, 9);
        bookFault("milk 0 0;", 1, 8);
        bookFault("stove 0;", 2, 6);
        bookFault("stove 21;", 2, 6);
        bookFault("day 0;", 2, 4);
        bookFault("day 61;", 2, 4);
        bookFault("day 1; day", 1, 10);
        String forty = "cup east;".repeat(40);
        PorridgeSea x = Due.made(ISLES);
        Due.due("40 lines", Due.book(x, forty, 0), 1);
        bookFault(forty + "day 1;", 4, 360);
        bookFault(forty + " cup ?", 4, 361);
        bookFault(forty + "mug ?", 3, 360);
        bookFault(forty + "rock ?", 3, 360);
        bookFault(forty + "sea 3", 1, 360);
        bookFault(forty + "?", 1, 360);
        bookFault(forty + "stir ", 4, 360);
    }

    private static void sentenceFault(String text, int kind, int place) {
        PorridgeSea x = Due.made(ISLES);
        Due.due("a SENTENCE ahead", Due.sentence(x, "load = 1"), 1);
        Due.due("sentence() of '" + text + "'", Due.sentence(x, text), -1 - place);
        Due.due("fault() of '" + text + "'", x.fault(), kind);
        Due.due("it stays", x.said(0), 0);
        Due.due("the tape is empty", x.count(6), 0);
    }

    private static void sentenceFaults() {
        sentenceFault("", 1, 0);
        sentenceFault(" \n", 1, 2);
        sentenceFault("or", 1, 0);
        sentenceFault("5", 1, 0);
        sentenceFault("cup", 1, 0);
        sentenceFault("rock", 1, 0);
        sentenceFault("day", 1, 0);
        sentenceFault("eaten;", 1, 5);
        sentenceFault("eaten eaten", 1, 6);
        sentenceFault("eaten and", 1, 9);
        sentenceFault("eaten and or", 1, 10);
        sentenceFault("not", 1, 3);
        sentenceFault("not and", 1, 4);
        sentenceFault("(eaten", 1, 6);
        sentenceFault("()", 1, 1);
        sentenceFault("(eaten))", 1, 7);
        sentenceFault("by", 1, 2);
        sentenceFault("by 1", 1, 3);
        sentenceFault("by east", 1, 3);
        sentenceFault("by cup", 3, 3);
        sentenceFault("by mug", 3, 3);
        sentenceFault("load", 1, 4);
        sentenceFault("load 1", 1, 5);
        sentenceFault("load (1", 1, 5);
        sentenceFault("load < cup", 1, 7);
        sentenceFault("load <= 1", 1, 6);
        sentenceFault("load = 1000", 1, 7);
        String twenty = "eaten" + " or eaten".repeat(19);
        PorridgeSea x = Due.made(ISLES);
        Due.due("20 ONES", Due.sentence(x, twenty), 20);
        sentenceFault(twenty + " or eaten", 4, twenty.length() + 4);
        sentenceFault(twenty + " or ?", 1, twenty.length() + 4);
        sentenceFault(twenty + " or cup", 1, twenty.length() + 4);
        sentenceFault(twenty + " and (", 4, twenty.length() + 5);
        sentenceFault(twenty + " and by ?", 4, twenty.length() + 5);
        sentenceFault(twenty + " and", 1, twenty.length() + 4);
        PorridgeSea small = Due.made("lump r 0 0;");
        Due.due("20 ONES by and", Due.sentence(small, "by r" + " and by r".repeat(19)), 20);
        Due.due("21 ONES by and", Due.sentence(small, "by r" + " and by r".repeat(20)), -1 - 180);
        Due.due("its kind", small.fault(), 4);
        Due.due("8 within", Due.sentence(x, "(((((((eaten)))))))"), 8);
        Due.due("8 within by not", Due.sentence(x, "not ".repeat(7) + "afloat"), 8);
        Due.due("8 within, twice", Due.sentence(x, "((((((not eaten)))))) and not(((((not afloat)))))"), 16);
        sentenceFault("((((((((eaten))))))))", 4, 8);
        sentenceFault("not ".repeat(8) + "afloat", 4, 32);
        sentenceFault("not ".repeat(8) + "cup", 1, 32);
        sentenceFault("(((((((eaten and (", 1, 18);
        sentenceFault("(((((((eaten and (eaten", 4, 18);
    }

    private static void names() {
        String[] told = {"sea", "thick", "lump", "boat", "heat", "cools", "skin", "stir", "row", "column", "on",
            "back", "east", "south", "west", "north", "flour", "milk", "stove", "day", "or", "and", "not", "eaten",
            "afloat", "landed", "by", "load", "depth", "left", "number"};
        for (String word : told) {
            seaFault("lump " + word + " 0 0;", 1, 5);
            seaFault("boat " + word + " 0 0 1 1;", 1, 5);
            if (word.length() < 7) {
                PorridgeSea x = new PorridgeSea();
                Due.due("a NAME that begins as " + word, Due.sea(x, "lump " + word + "z 0 0;"), 1);
            }
        }
        PorridgeSea x = Due.made("boat sun 1 1 0 9;boat nort 2 2 0 9;");
        Due.due("a NAME in a BOOK", Due.book(x, "sun east;nort north;", 1), -1);
        Due.due("x of sun", x.boat(0, 0), 2);
        Due.due("y of nort", x.boat(1, 1), 1);
    }

    private static void faultIsOfTheLatest() {
        PorridgeSea x = new PorridgeSea();
        Due.due("fault() ahead of any", x.fault(), 0);
        Due.sea(x, "heat 31;");
        Due.due("fault() of sea()", x.fault(), 2);
        Due.due("book(2)", Due.book(x, "day 1;", 2), -1000);
        Due.due("fault() behind book(2)", x.fault(), 2);
        Due.due("the tape stays", x.count(6), 6);
        Due.due("it is a BOOK still", x.book(0), -1);
        Due.due("fault() of book()", x.fault(), 0);
        Due.sentence(x, "by rock");
        Due.due("fault() of sentence()", x.fault(), 3);
        Due.sea(x, "");
        Due.due("fault() of sea()", x.fault(), 0);
        Due.due("book(-1)", x.book(-1), -1000);
    }
}

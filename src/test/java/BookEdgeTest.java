/** Books, sentences and images at their edges: the Terms of both texts, promises 35 to 40. */
final class BookEdgeTest {
    private static final String SEA = "sea 3 2;heat 9;cools 1;skin 2;thick 0 0 9;thick 1 0 2;"
            + "lump rock 2 0;lump isle 0 1;boat cup 1 0 3 4;boat mug 1 1 0 2;boat pan 0 1 9 9;";

    private BookEdgeTest() {
    }

    public static void main(String[] args) {
        anotherLives();
        numbersOfBooks();
        wordsOfBooks();
        namesInBooks();
        fortyLines();
        theFullestBook();
        theFirstAndTheLastLineWrong();
        whyALineIsWrong();
        noSuchLineOrCell();
        fewerDaysAreLeft();
        judgedAllStays();
        livedAsFarAsItIsNotWrong();
        toldOfNone();
        toldOfTheLatest();
        numbersOfSentences();
        wordsOfSentences();
        namesInSentences();
        twentyOnes();
        eightWithin();
        theFullestSentence();
        signsAtTheEdge();
        byAndLanded();
        saidOfNone();
        saidOfAll();
        theSentenceStays();
        placesOfImages();
        whatImagesKeep();
        whatRestoreLeaves();
        Due.close("BookEdgeTest");
    }

    private static void pass(PorridgeSea x, int n) {
        for (int left = n; left > 0; left -= 60) {
            x.days(Math.min(60, left));
        }
    }

    private static void bookFault(String text, int kind, int place) {
        Due.fault(Due.made(SEA), Due.BOOK, text, kind, place);
        PorridgeSea x = Due.made(SEA);
        Due.due("judged: '" + text + "'", Due.book(x, text, 0), -2 - place);
        Due.due("its kind", x.fault(), kind);
        Due.due("ahead of any", x.told(0), -1);
    }

    private static void sentenceFault(String text, int kind, int place) {
        PorridgeSea x = Due.made(SEA);
        Due.fault(x, Due.SENTENCE, text, kind, place);
        Due.due("no SENTENCE", x.said(-1), -1);
    }

    private static void sentence(String text, int ones) {
        Due.fine(Due.made(SEA), Due.SENTENCE, text, ones);
    }

    /** Promise 35: "-1000: another lives (the tape stays)" */
    private static void anotherLives() {
        PorridgeSea x = Due.made(SEA);
        Due.book(x, "stove 1;milk 2 0 1;", 0);
        Due.sentence(x, "?");
        Due.tape(x, "day 61;");
        int[] near = {-3, -2, -1, 2, 3, 4};
        for (int lives : near) {
            Due.due("book(" + lives + ")", x.book(lives), -1000);
        }
        for (int far : Due.FAR) {
            Due.due("book(" + far + ")", x.book(far), -1000);
        }
        Due.due("the tape stays", x.count(6), 7);
        Due.due("the FAULT stays", x.fault(), 1);
        Due.due("why stays", x.told(0), 31);
        Due.due("LINES stay", x.told(1), 1);
        Due.due("its FAULT by book(0)", x.book(0), -2 - 4);
        Due.due("the tape is empty", x.count(6), 0);
        Due.due("none is undone", x.undo(), -1);
        PorridgeSea y = new PorridgeSea();
        Due.due("book(2) of an empty tape", y.book(2), -1000);
        Due.due("ahead of any", y.told(0), -1);
        Due.due("book(0) of an empty tape", y.book(0), -1);
        Due.due("book(1) of an empty tape", y.book(1), -1);
        Due.due("not WRONG", y.told(0), 0);
    }

    /** "N 0 to 5", "0 to 5 each; 1 to 9", "(1 to 20)", "(1 to 60)" */
    private static void numbersOfBooks() {
        PorridgeSea x = Due.made("sea 6 6;heat 30;cools 0;boat cup 0 0 0 1;");
        Due.range(x, Due.BOOK, "stir row ", " on;", 0, 5);
        Due.range(x, Due.BOOK, "stir column ", " back;", 0, 5);
        String[] words = {"flour ", "milk "};
        for (String word : words) {
            Due.range(x, Due.BOOK, word, " 0 1;", 0, 5);
            Due.range(x, Due.BOOK, word + "0 ", " 1;", 0, 5);
            Due.range(x, Due.BOOK, word + "5 ", " 1;", 0, 5);
            Due.range(x, Due.BOOK, word + "0 0 ", ";", 1, 9);
            Due.range(x, Due.BOOK, word + "5 5 ", ";", 1, 9);
        }
        Due.range(x, Due.BOOK, "stove ", ";", 1, 20);
        Due.range(Due.made("sea 2 2;"), Due.BOOK, "stir row ", " on;", 0, 5);
        Due.range(Due.made("sea 2 2;"), Due.BOOK, "flour ", " 0 1;", 0, 5);
        PorridgeSea y = new PorridgeSea();
        Due.range(y, Due.BOOK, "day ", ";", 1, 60);
        Due.due("1 and 60", y.now(0), 61);
    }

    /** "LINES: 'row', 'column'", "ON: 'on', 'back'", "SIDE: 'east', 'south', 'west', 'north'" */
    private static void wordsOfBooks() {
        String words = "sea thick lump boat heat cools skin stir row column on back east south west north flour milk "
                + "stove day or and not eaten afloat landed by load depth left number cup rock off rows eas norths";
        for (String word : words.split(" ")) {
            boolean line = word.equals("row") || word.equals("column");
            boolean on = word.equals("on") || word.equals("back");
            boolean side = word.equals("east") || word.equals("south") || word.equals("west") || word.equals("north");
            if (!line) {
                bookFault("stir " + word + " 0 on;", 1, 5);
            }
            if (!on) {
                bookFault("stir row 0 " + word + ";", 1, 11);
            }
            if (!side) {
                bookFault("mug " + word + ";", 1, 4);
            }
            boolean first = word.equals("stir") || word.equals("flour") || word.equals("milk") || word.equals("stove")
                    || word.equals("day") || word.equals("cup");
            if (!first) {
                boolean name = "rock off rows eas norths".contains(word) && !line && !side && word.length() > 2;
                bookFault(word + " 1;", name ? 3 : 1, 0);
            }
        }
        String[] sides = {"east", "south", "west", "north"};
        int[] cells = {2, 1, 1, 2, 0, 1, 1, 0};
        for (int side = 0; side < 4; side++) {
            PorridgeSea x = Due.made("sea 3 3;boat cup 1 1 0 1;");
            Due.fine(x, Due.BOOK, "cup " + sides[side] + ";", -1);
            Due.due("X behind " + sides[side], x.boat(0, 0), cells[2 * side]);
            Due.due("Y behind " + sides[side], x.boat(0, 1), cells[2 * side + 1]);
        }
        String[] stirs = {"row 0 on", "row 0 back", "column 0 on", "column 0 back"};
        String[] then = {"010/000/000", "001/000/000", "000/100/000", "000/000/100"};
        for (int i = 0; i < 4; i++) {
            PorridgeSea x = Due.made("sea 3 3;thick 0 0 1;");
            Due.fine(x, Due.BOOK, "stir " + stirs[i] + ";", -1);
            Due.due("behind " + stirs[i], Due.cells(x), then[i]);
        }
    }

    /** "3 a NAME .. not told, or of another sort" */
    private static void namesInBooks() {
        bookFault("rock east;", 3, 0);
        bookFault("isle east;", 3, 0);
        bookFault("cups east;", 3, 0);
        bookFault("cu east;", 3, 0);
        bookFault("at east;", 3, 0);
        bookFault("day 1; mugs east;", 3, 7);
        bookFault("rock", 3, 0);
        bookFault("cup", 1, 3);
        bookFault("cup;", 1, 3);
        bookFault("cup cup;", 1, 4);
        bookFault("cup rock;", 1, 4);
        bookFault("cup east", 1, 8);
        bookFault("cup east east;", 1, 9);
        PorridgeSea x = Due.made(SEA);
        pass(x, 3);
        Due.due("EATEN", x.now(3), 1);
        Due.due("an EATEN one is told", Due.book(x, "cup east;", 1), 0);
        Due.due("why", x.told(0), 11);
        Due.sea(x, "");
        Due.fault(x, Due.BOOK, "cup east;", 3, 0);
    }

    /** "{ LINE ; }, 40 at most"; "a 41st LINE of a BOOK (at the LINE's first WORD)" */
    private static void fortyLines() {
        PorridgeSea x = Due.made("heat 30;cools 0;boat cup 0 0 0 9;");
        for (int n = 0; n <= 45; n++) {
            String text = "day 1;".repeat(n);
            if (n <= 40) {
                Due.fine(x, Due.BOOK, text, -1);
                Due.due("LINES", x.told(1), n);
                x.undo();
            } else {
                Due.fault(x, Due.BOOK, text, 4, 240);
            }
        }
        String forty = "day 1;".repeat(40);
        String[] fours = {"stir", "cup", "flour", "milk", "stove", "day", "day 61;", "cup up;", "stir row 9 on;"};
        for (String line : fours) {
            Due.fault(x, Due.BOOK, forty + line, 4, 240);
            Due.fault(x, Due.BOOK, forty + " \n" + line, 4, 242);
        }
        String[] ones = {"?", ";", "5", "east", "sea", "or", "0000", "abcdefgh", "CUP"};
        for (String token : ones) {
            Due.fault(x, Due.BOOK, forty + token, 1, 240);
        }
        Due.fault(x, Due.BOOK, forty + "mug east;", 3, 240);
        Due.fine(x, Due.BOOK, forty + " ".repeat(160), -1);
        Due.fault(x, Due.BOOK, forty + " ".repeat(161), 1, 400);
    }

    /** 40 LINES in 400 bytes. */
    private static void theFullestBook() {
        PorridgeSea x = Due.made("sea 2 2;boat cup 0 0 0 9;");
        String two = "stove   1;day    1;";
        String full = " " + (two + " ").repeat(20).substring(0, 399);
        Due.due("400 bytes", full.length(), 400);
        Due.fine(x, Due.BOOK, full, -1);
        Due.due("LINES", x.told(1), 40);
        Due.due("the DAY", x.now(0), 20);
        Due.fault(x, Due.BOOK, full + " ", 1, 400);
        Due.fault(x, Due.BOOK, full + "day 1;", 1, 400);
    }

    /** "the LINE that is WRONG; NONE: none" */
    private static void theFirstAndTheLastLineWrong() {
        for (int wrong = 0; wrong <= 40; wrong++) {
            PorridgeSea x = Due.made("heat 30;cools 0;boat cup 0 0 0 1;");
            String text = "day 1;".repeat(wrong) + (wrong < 40 ? "cup west;" : "") + "day 1;".repeat(Math.max(0, 39 - wrong));
            Due.due("WRONG at " + wrong, Due.book(x, text, 1), wrong < 40 ? wrong : -1);
            Due.due("why", x.told(0), wrong < 40 ? 12 : 0);
            Due.due("LINES that are not", x.told(1), wrong);
            Due.due("the DAY then", x.told(2), wrong);
            Due.due("the DAY", x.now(0), wrong);
        }
    }

    private static void wrong(String text, int line, int why) {
        for (int lives = 0; lives < 2; lives++) {
            PorridgeSea x = Due.made(SEA);
            Due.due("book(" + lives + ") of '" + text + "'", Due.book(x, text, lives), line);
            Due.due("why", x.told(0), why);
            Due.due("LINES that are not", x.told(1), line < 0 ? text.split(";").length : line);
            Due.due("no FAULT", x.fault(), 0);
        }
    }

    /** Promise 36: "1 as for stirring, 11 to 13 rowing, 21 flour, 31 milk, 41 the stove" */
    private static void whyALineIsWrong() {
        wrong("day 6;stir row 0 on;", -1, 0);
        wrong("day 7;stir row 0 on;", 1, 1);
        wrong("day 2;cup north;", 1, 12);
        wrong("day 3;cup north;", 1, 11);
        wrong("mug east;mug west;", -1, 0);
        wrong("mug east;mug west;mug east;", 2, 13);
        wrong("mug east;mug east;", 1, 12);
        wrong("mug south;", 0, 12);
        wrong("cup west;cup west;", 1, 12);
        wrong("cup west;cup east;", 1, 13);
        wrong("pan west;", 0, 12);
        wrong("flour 1 0 7;flour 1 0 1;", 1, 21);
        wrong("flour 1 0 6;flour 1 0 1;", -1, 0);
        wrong("flour 1 0 6;flour 1 0 9;flour 1 0 1;", 2, 21);
        wrong("milk 1 0 2;milk 1 0 1;", 1, 31);
        wrong("milk 1 0 1;milk 1 0 9;milk 1 0 9;", 2, 31);
        wrong("stove 20;stove 1;stove 1;", 2, 41);
        wrong("stove 20;stove 20;day 1;stove 1;", -1, 0);
    }

    /** "9, 29, 39: there is no such line, cell" */
    private static void noSuchLineOrCell() {
        for (int wide = 2; wide <= 6; wide++) {
            for (int high = 2; high <= 6; high++) {
                PorridgeSea x = Due.made("sea " + wide + " " + high + ";");
                for (int n = 0; n <= 5; n++) {
                    wrongIn(x, "stir row " + n + " on;", n < high ? 0 : 9);
                    wrongIn(x, "stir column " + n + " back;", n < wide ? 0 : 9);
                    wrongIn(x, "flour " + n + " 0 9;", n < wide ? 0 : 29);
                    wrongIn(x, "flour 0 " + n + " 9;", n < high ? 0 : 29);
                    wrongIn(x, "milk " + n + " 0 9;", n < wide ? 31 : 39);
                    wrongIn(x, "milk 0 " + n + " 9;", n < high ? 31 : 39);
                }
            }
        }
        PorridgeSea cold = Due.made("sea 2 3;heat 0;");
        wrongIn(cold, "stir row 2 on;", 1);
        wrongIn(cold, "stir row 3 on;", 9);
        wrongIn(cold, "stir column 1 on;", 1);
        wrongIn(cold, "stir column 2 on;", 9);
    }

    private static void wrongIn(PorridgeSea x, String text, int why) {
        Due.due("book(0) of '" + text + "'", Due.book(x, text, 0), why == 0 ? -1 : 0);
        Due.due("why '" + text + "'", x.told(0), why);
    }

    /** "51: fewer DAYS are left" */
    private static void fewerDaysAreLeft() {
        for (int left = 0; left <= 61; left++) {
            PorridgeSea x = Due.made("heat 30;cools 0;");
            pass(x, 400 - left);
            for (int n = 1; n <= 60; n += 1 + left % 3) {
                Due.due("day " + n + " of " + left, Due.book(x, "day " + n + ";", 0), n <= left ? -1 : 0);
                Due.due("why", x.told(0), n <= left ? 0 : 51);
                Due.due("the DAY then", x.told(2), n <= left ? 400 - left + n : 400 - left);
            }
            if (left > 0 && left < 60) {
                Due.due("one more than are left", Due.book(x, "day " + (left + 1) + ";", 1), 0);
                Due.due("none goes by", x.now(0), 400 - left);
                Due.due("all that are left", Due.book(x, "day " + left + ";", 1), -1);
                Due.due("the last DAY", x.now(0), 400);
                Due.due("none is left", Due.book(x, "day 1;", 1), 0);
            }
        }
    }

    /** "judged, all staying as it is (lives 0)" */
    private static void judgedAllStays() {
        PorridgeSea x = Due.made(SEA);
        x.row(1, 0);
        x.days(1);
        Due.sentence(x, "eaten");
        String before = Due.state(x);
        String[] texts = {"", "day 60;", "stir row 0 on;mug west;mug east;flour 2 1 9;milk 1 0 3;stove 20;day 3;",
            "day 2;cup east;day 5;", "stir row 5 on;"};
        int[] answers = {-1, -1, -1, 1, 0};
        int[] days = {1, 61, 4, 3, 1};
        int[] eaten = {0, 1, 1, 1, 0};
        for (int i = 0; i < texts.length; i++) {
            Due.due("judged: '" + texts[i] + "'", Due.book(x, texts[i], 0), answers[i]);
            Due.due("the DAY then", x.told(2), days[i]);
            Due.due("EATEN then", x.told(3), eaten[i]);
            Due.due("all stays", Due.state(x), before);
            Due.due("the SENTENCE stays", x.said(-1), 0);
            Due.due("the tape is empty", x.count(6), 0);
        }
        Due.due("what was done ahead is undone", x.undo(), 1);
    }

    /** "or lived as far as it is not WRONG (1)" */
    private static void livedAsFarAsItIsNotWrong() {
        PorridgeSea x = Due.made(SEA);
        String before = Due.state(x);
        Due.due("lived", Due.book(x, "stove 2;flour 2 1 4;day 1;mug north;day 1;cup north;stove 9;day 9;", 1), 5);
        PorridgeSea y = Due.made(SEA);
        y.stove(2);
        y.flour(2, 1, 4);
        y.days(1);
        y.row(1, 3);
        y.days(1);
        Due.due("as far as that", Due.state(x), Due.state(y));
        Due.due("undone as one", x.undo(), 0);
        Due.due("as it was", Due.state(x), before);
        Due.due("lived not at all", Due.book(x, "mug south;day 1;", 1), 0);
        Due.due("as it was", Due.state(x), before);
    }

    /** Promise 36: "NONE: another what, or ahead of any" */
    private static void toldOfNone() {
        PorridgeSea x = Due.made(SEA);
        for (int what = -2; what < 7; what++) {
            Due.due("ahead of any: told(" + what + ")", x.told(what), -1);
        }
        Due.book(x, "day 0;", 0);
        x.book(9);
        Due.due("a FAULT and -1000 are none", x.told(0), -1);
        Due.book(x, "day 3;stir row 2 on;", 0);
        int[] told = {9, 1, 3, 1};
        for (int what = -3; what < 9; what++) {
            Due.due("told(" + what + ")", x.told(what), what >= 0 && what < 4 ? told[what] : -1);
        }
        for (int far : Due.FAR) {
            Due.due("told(" + far + ")", x.told(far), -1);
        }
    }

    private static void toldOfTheLatest() {
        PorridgeSea x = Due.made(SEA);
        Due.book(x, "day 3;stir row 2 on;", 0);
        int[] told = {9, 1, 3, 1};
        String[] faults = {"?", "day 61;", "rock east;", "day 1;".repeat(41)};
        for (String text : faults) {
            Due.due("a FAULT", Due.book(x, text, 1) < -1, true);
            for (int what = 0; what < 4; what++) {
                Due.due("told(" + what + ") stays", x.told(what), told[what]);
            }
        }
        x.days(60);
        x.undo();
        Due.sea(x, "");
        Due.due("a new SEA leaves it", x.told(3), 1);
        Due.book(x, "", 0);
        int[] empty = {0, 0, 0, 0};
        for (int what = 0; what < 4; what++) {
            Due.due("told(" + what + ") of an empty one", x.told(what), empty[what]);
        }
    }

    /** "( 'load' | 'depth' | 'left' | 'number' ) SIGN NUMBER": any NUMBER is as told. */
    private static void numbersOfSentences() {
        String[] words = {"load", "depth", "left", "number"};
        for (String word : words) {
            for (int n = 0; n <= 999; n += n < 12 || n > 990 ? 1 : 97) {
                sentence(word + " > " + n, 1);
            }
            sentence(word + " < 000", 1);
            sentenceFault(word + " < 1000", 1, word.length() + 3);
            sentenceFault(word + " < 0000", 1, word.length() + 3);
            sentenceFault(word, 1, word.length());
            sentenceFault(word + " <", 1, word.length() + 2);
            sentenceFault(word + " 5", 1, word.length() + 1);
            sentenceFault(word + " < <", 1, word.length() + 3);
            sentenceFault(word + " ; 5", 1, word.length() + 1);
            sentenceFault(word + " ( 5", 1, word.length() + 1);
            sentenceFault(word + " ) 5", 1, word.length() + 1);
            sentenceFault(word + " < load", 1, word.length() + 3);
            sentenceFault(word + " < 5 6", 1, word.length() + 5);
        }
    }

    private static void wordsOfSentences() {
        String words = "sea thick lump boat heat cools skin stir row column on back east south west north flour milk "
                + "stove day or and not eaten afloat landed by load depth left number cup rock eat";
        for (String word : words.split(" ")) {
            boolean whole = word.equals("eaten") || word.equals("afloat") || word.equals("landed");
            boolean begins = " not by load depth left number ".contains(" " + word + " ");
            if (whole) {
                sentence(word, 1);
                sentence("not " + word, 2);
                sentence("(" + word + ")", 2);
                sentence("eaten and " + word + " or " + word, 3);
            } else {
                sentenceFault(word, 1, begins ? word.length() : 0);
                sentenceFault("not " + word, 1, begins ? 4 + word.length() : 4);
                sentenceFault("eaten or " + word, 1, begins ? 9 + word.length() : 9);
            }
            if (!word.equals("or") && !word.equals("and")) {
                sentenceFault("eaten " + word, 1, 6);
                sentenceFault("(eaten " + word, 1, 7);
            }
        }
        sentenceFault("eaten )", 1, 6);
        sentenceFault("(eaten))", 1, 7);
        sentenceFault("()", 1, 1);
        sentenceFault(")", 1, 0);
        sentenceFault("not )", 1, 4);
        sentenceFault("eaten ;", 1, 6);
        sentenceFault("eaten (afloat)", 1, 6);
    }

    /** "'by' LUMP"; "3 a NAME .. not told, or of another sort" */
    private static void namesInSentences() {
        sentence("by rock", 1);
        sentence("by isle", 1);
        sentenceFault("by cup", 3, 3);
        sentenceFault("by mug", 3, 3);
        sentenceFault("by rocks", 3, 3);
        sentenceFault("by roc", 3, 3);
        sentenceFault("by at", 3, 3);
        sentenceFault("by sea", 1, 3);
        sentenceFault("by by", 1, 3);
        sentenceFault("by not", 1, 3);
        sentenceFault("by 0", 1, 3);
        sentenceFault("by (rock)", 1, 3);
        sentenceFault("by", 1, 2);
        sentenceFault("not (eaten or by mug)", 3, 17);
    }

    /** "20 ONES"; "a 21st ONE .. (at its first TOKEN)"; "each not, bracket and other one" */
    private static void twentyOnes() {
        PorridgeSea x = Due.made("lump r 0 0;");
        String ors = "eaten";
        String ands = "by r";
        for (int n = 1; n <= 22; n++) {
            if (n <= 20) {
                sentence(ors, n);
                Due.fine(x, Due.SENTENCE, ands, n);
            } else {
                sentenceFault(ors, 4, 180);
                Due.fault(x, Due.SENTENCE, ands, 4, 180);
            }
            ors += " or eaten";
            ands += " and by r";
        }
        String pairs = "not eaten" + " or not eaten".repeat(9);
        sentence(pairs, 20);
        sentenceFault(pairs + " or not eaten", 4, pairs.length() + 4);
        String brackets = "(eaten)" + "and(eaten)".repeat(8);
        sentence(brackets + "or not eaten", 20);
        sentence(brackets + "or(eaten)", 20);
        sentence(brackets + "or eaten", 19);
        sentenceFault(brackets + "or(eaten)and eaten", 4, brackets.length() + 13);
        sentenceFault(brackets + "or(not eaten)", 4, brackets.length() + 7);
        sentenceFault(brackets + "or not(eaten)", 4, brackets.length() + 7);
        String twenty = "eaten" + " or eaten".repeat(19);
        String[] ones = {"eaten", "not", "(", "by", "load", "number", "landed", "afloat"};
        for (String one : ones) {
            sentenceFault(twenty + " or " + one, 4, twenty.length() + 4);
        }
        String[] none = {"?", ")", "5", "cup", "rock", "sea", "or", "0000"};
        for (String token : none) {
            sentenceFault(twenty + " or " + token, 1, twenty.length() + 4);
        }
        sentenceFault(twenty + " or", 1, twenty.length() + 3);
    }

    /** "8 within one another"; "a ninth within (at its first TOKEN)" */
    private static void eightWithin() {
        for (int n = 0; n <= 12; n++) {
            String nots = "not ".repeat(n);
            String brackets = "(".repeat(n) + "eaten" + ")".repeat(n);
            if (n <= 7) {
                sentence(nots + "eaten", n + 1);
                sentence(brackets, n + 1);
                sentence(brackets + " and " + brackets, 2 * n + 2);
            } else {
                sentenceFault(nots + "eaten", 4, 32);
                sentenceFault(brackets, 4, 8);
            }
        }
        sentence("not(not(not(not eaten)))", 8);
        sentenceFault("not(not(not(not(eaten))))", 4, 16);
        sentenceFault("not(not(not(not not eaten)))", 4, 16 + 4);
        sentence("(((((((eaten)))))))and not eaten", 10);
        sentence("(((((((eaten or eaten)))))))", 9);
        sentenceFault("(((((((eaten or not eaten)))))))", 4, 20);
        sentenceFault("(((((((eaten or (eaten))))))))", 4, 17);
        sentenceFault("((((((((?", 1, 8);
        sentenceFault("((((((((", 1, 8);
        sentenceFault("((((((((rock", 1, 8);
        sentenceFault("((((((((load", 4, 8);
    }

    /** 200 bytes, 20 ONES, 8 within one another at once. */
    private static void theFullestSentence() {
        String text = "(((((((eaten)))))))and(((((((eaten)))))))and not not not eaten";
        sentence(text + " ".repeat(200 - text.length()), 20);
        sentence(" ".repeat(200 - text.length()) + text, 20);
        sentenceFault(text + " ".repeat(201 - text.length()), 1, 200);
        sentenceFault(" ".repeat(201 - text.length()) + text, 1, 200);
    }

    private static String said(PorridgeSea x, String text) {
        Due.due("'" + text + "' has a FAULT", Due.sentence(x, text) < 1, false);
        StringBuilder boats = new StringBuilder();
        for (int k = 0; k < x.said(-1); k++) {
            boats.append(x.said(k));
        }
        return boats.toString();
    }

    /** "SIGN: < = >": one below, even, one above. */
    private static void signsAtTheEdge() {
        PorridgeSea x = Due.made("cools 0;boat a 0 0 4 1;boat b 0 0 5 2;boat c 0 0 6 3;thick 0 0 5;boat d 1 1 0 4;");
        x.row(1, 1);
        x.days(2);
        x.row(3, 0);
        Due.due("load <", said(x, "load < 5"), "03");
        Due.due("load =", said(x, "load = 5"), "1");
        Due.due("load >", said(x, "load > 5"), "2");
        Due.due("left <", said(x, "left < 3"), "01");
        Due.due("left =", said(x, "left = 3"), "23");
        Due.due("left >", said(x, "left > 2"), "23");
        Due.due("depth <", said(x, "depth < 2"), "03");
        Due.due("depth =", said(x, "depth = 2"), "12");
        Due.due("depth >", said(x, "depth > 1"), "12");
        Due.due("number <", said(x, "number < 2"), "01");
        Due.due("number =", said(x, "number = 2"), "2");
        Due.due("number >", said(x, "number > 2"), "3");
        Due.due("number < 0", said(x, "number < 0"), "");
        Due.due("number = 0", said(x, "number = 0"), "0");
        Due.due("number > 0", said(x, "number > 0"), "123");
        Due.due("number > 999", said(x, "number > 999"), "");
        Due.due("number < 999", said(x, "number < 999"), "0123");
        x.days(1);
        Due.due("depth = 3", said(x, "depth = 3"), "12");
        Due.due("eaten", said(x, "eaten"), "12");
        Due.due("afloat", said(x, "afloat"), "03");
        Due.due("not afloat", said(x, "not afloat"), "12");
        for (int n = 0; n <= 9; n++) {
            PorridgeSea y = Due.made("boat a 0 0 " + n + " 1;");
            for (int m = 0; m <= 11; m++) {
                Due.due(n + " < " + m, said(y, "load < " + m), n < m ? "0" : "");
                Due.due(n + " = " + m, said(y, "load = " + m), n == m ? "0" : "");
                Due.due(n + " > " + m, said(y, "load > " + m), n > m ? "0" : "");
            }
        }
    }

    /** "'landed' (a LUMP is in its cell) | 'by' LUMP (that is in its cell, or in one next to it)" */
    private static void byAndLanded() {
        for (int cell = 0; cell < 36; cell++) {
            PorridgeSea x = Due.made("sea 6 6;lump rock 2 2;lump isle 5 0;boat cup " + cell % 6 + " " + cell / 6
                    + " 0 1;");
            boolean byRock = cell == 14 || cell == 13 || cell == 15 || cell == 8 || cell == 20;
            boolean byIsle = cell == 5 || cell == 4 || cell == 11;
            Due.due("by rock at " + cell, said(x, "by rock"), byRock ? "0" : "");
            Due.due("by isle at " + cell, said(x, "by isle"), byIsle ? "0" : "");
            Due.due("landed at " + cell, said(x, "landed"), cell == 14 || cell == 5 ? "0" : "");
        }
        PorridgeSea x = Due.made("lump rock 0 0;boat cup 0 1 0 1;");
        Due.sentence(x, "by rock");
        x.stir(0, 0, 0);
        Due.due("the LUMP went on", x.said(-1), 0);
        x.stir(0, 0, 1);
        x.stir(0, 1, 1);
        Due.due("over the rim it is not by it", x.said(-1), 0);
        x.stir(0, 0, 1);
        Due.due("both over the rim", x.said(-1), 1);
    }

    /** Promise 38: "NONE: there is no SENTENCE, none such" */
    private static void saidOfNone() {
        PorridgeSea x = Due.made(SEA);
        for (int k = -3; k < 8; k++) {
            Due.due("no SENTENCE: said(" + k + ")", x.said(k), -1);
        }
        Due.sentence(x, "eaten");
        Due.due("of none: how many", x.said(-1), 0);
        Due.due("of none: the first", x.said(0), -1);
        Due.due("of none: said(-2)", x.said(-2), -1);
        PorridgeSea empty = new PorridgeSea();
        Due.due("without BOATS", Due.sentence(empty, "not eaten"), 2);
        Due.due("how many", empty.said(-1), 0);
        Due.due("the first", empty.said(0), -1);
    }

    private static void saidOfAll() {
        String text = "";
        for (int boats = 1; boats <= 6; boats++) {
            text += "boat " + (char) ('a' + boats) + " 0 0 0 1;";
            PorridgeSea x = Due.made(text);
            Due.sentence(x, "not eaten");
            Due.due("of all " + boats, x.said(-1), boats);
            for (int k = 0; k < 9; k++) {
                Due.due("said(" + k + ")", x.said(k), k < boats ? k : -1);
            }
            for (int far : Due.FAR) {
                Due.due("said(" + far + ")", x.said(far), -1);
            }
            Due.sentence(x, "number = " + (boats - 1));
            Due.due("of the last alone", x.said(-1), 1);
            Due.due("of the last alone", x.said(0), boats - 1);
            Due.due("of the last alone", x.said(1), -1);
        }
    }

    /** Promise 37: "-1 less the place of a FAULT: it stays" */
    private static void theSentenceStays() {
        PorridgeSea x = Due.made(SEA);
        Due.sentence(x, "load = 0");
        String[] faults = {"", "?", "load = 9 or", "by cup", "not ".repeat(8) + "eaten", "load = 9 eaten"};
        for (String text : faults) {
            Due.due("a FAULT", Due.sentence(x, text) < 0, true);
            Due.due("it stays", x.said(-1), 1);
            Due.due("it stays", x.said(0), 1);
        }
        Due.due("a new one", Due.sentence(x, "load = 9"), 1);
        Due.due("of another", x.said(0), 2);
        x.days(1);
        x.undo();
        Due.book(x, "day 1;", 1);
        Due.due("acts leave it", x.said(0), 2);
        Due.sea(x, "?");
        Due.due("a FAULT of sea() leaves it", x.said(0), 2);
        Due.sea(x, SEA);
        Due.due("a new SEA has none", x.said(0), -1);
    }

    /** Promises 39, 40: "place k (0, 1) .. false: no such one, or nothing is kept there" */
    private static void placesOfImages() {
        PorridgeSea x = Due.made(SEA);
        for (int k = -2; k < 5; k++) {
            Due.due("nothing is kept: restore(" + k + ")", x.restore(k), false);
        }
        for (int far : Due.FAR) {
            Due.due("image(" + far + ")", x.image(far), false);
            Due.due("restore(" + far + ")", x.restore(far), false);
        }
        Due.due("image(-1)", x.image(-1), false);
        Due.due("image(2)", x.image(2), false);
        Due.due("restore(0) yet", x.restore(0), false);
        Due.due("restore(1) yet", x.restore(1), false);
        Due.due("image(1)", x.image(1), true);
        Due.due("restore(0) yet", x.restore(0), false);
        Due.due("restore(1)", x.restore(1), true);
        Due.due("image(0)", x.image(0), true);
        Due.due("restore(0)", x.restore(0), true);
        Due.due("restore(-1)", x.restore(-1), false);
        Due.due("restore(2)", x.restore(2), false);
        x.days(1);
        Due.due("a restore() that is false leaves acts", x.restore(2), false);
        Due.due("a restore() that is false leaves acts", x.undo(), 0);
    }

    private static void whatImagesKeep() {
        PorridgeSea x = Due.made(SEA);
        x.row(1, 0);
        x.stir(1, 0, 1);
        x.days(2);
        x.row(2, 0);
        Due.sentence(x, "by rock or load = 0");
        String kept = Due.state(x);
        int said = x.said(-1);
        x.image(0);
        Due.sea(x, "sea 6 6;thick 5 5 9;");
        x.image(1);
        String other = Due.state(x);
        for (int i = 0; i < 3; i++) {
            Due.due("restore(0)", x.restore(0), true);
            Due.due("as kept", Due.state(x), kept);
            Due.due("the SENTENCE, too", x.said(-1), said);
            Due.due("the NAMES, too", Due.chart(x, 2), "pan at 1 0");
            x.days(30);
            x.flour(0, 1, 9);
            Due.due("restore(1)", x.restore(1), true);
            Due.due("as kept", Due.state(x), other);
            Due.due("no SENTENCE then", x.said(-1), -1);
            Due.sentence(x, "eaten");
        }
        x.image(0);
        Due.due("kept anew", x.restore(0), true);
        Due.due("kept anew", Due.state(x), other);
        Due.due("with the SENTENCE", x.said(-1), 0);
        PorridgeSea first = new PorridgeSea();
        Due.due("a new object's", first.image(0), true);
        Due.sea(first, SEA);
        Due.sentence(first, "eaten");
        Due.due("restored", first.restore(0), true);
        Due.due("as a new object", Due.state(first), Due.state(new PorridgeSea()));
        Due.due("no SENTENCE", first.said(-1), -1);
    }

    /** "the tape, and what other calls told last, stays; nothing can be undone" */
    private static void whatRestoreLeaves() {
        PorridgeSea x = Due.made(SEA);
        x.image(0);
        x.stove(1);
        x.way(1, 0);
        x.meet(0, 0);
        x.fleet(9);
        x.chart(1);
        Due.sunk(x, 1, 1);
        Due.book(x, "stove 1;mug south;", 1);
        Due.sentence(x, "?");
        x.feed(1, 2, 3, 4, 5);
        x.end(11);
        int sent = x.send();
        String sides = Due.sides(x);
        Due.due("restore(0)", x.restore(0), true);
        Due.due("the tape", x.count(6), 11);
        Due.due("fault()", x.fault(), 1);
        Due.due("wayAt()", Due.sides(x), sides);
        Due.due("of two STEPS", sides.length(), 2);
        Due.due("meetAt()", x.meetAt(0, 0), -1);
        Due.due("fleets()", x.fleets(), 4);
        Due.due("byteAt()", x.byteAt(0), 'm');
        Due.due("sunkAt()", x.sunkAt(5), 8);
        Due.due("send()", x.send(), sent);
        Due.due("told(0)", x.told(0), 12);
        Due.due("told(1)", x.told(1), 1);
        Due.due("the heat is as kept", x.now(1), 9);
        Due.due("nothing can be undone", x.undo(), -1);
        Due.due("image() leaves what can be", x.stove(1), 0);
        Due.due("image() leaves what can be", x.image(1), true);
        Due.due("image() leaves what can be", x.undo(), 0);
    }
}

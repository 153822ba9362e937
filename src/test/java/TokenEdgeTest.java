/** Where TOKENS, texts and the tape begin and end: the first of the Terms, promises 1 to 5. */
final class TokenEdgeTest {
    private static final int[] MOST = {900, 400, 200};
    private static final String ISLES = "lump rock 0 0;lump isle 1 0;boat cup 2 2 1 3;";

    private TokenEdgeTest() {
    }

    public static void main(String[] args) {
        bytesBetweenTokens();
        bytesAroundALine();
        bytesOfSigns();
        bytesOfNames();
        lengthOfWords();
        lengthOfNumbers();
        runsOfLettersAndDigits();
        emptyTexts();
        theEndOfATextTooEarly();
        noTokenAtAnyPlace();
        mostBytes();
        tokensOverTheMostBytes();
        feedUntilFull();
        feedTheHighestFirst();
        feedBehindTheEnd();
        endOfTheTape();
        faultOfTheLatest();
        theLastCalls();
        Due.close("TokenEdgeTest");
    }

    private static boolean isBlank(int value) {
        return value == 32 || value == 10;
    }

    private static boolean isLetter(int value) {
        return value >= 97 && value <= 122;
    }

    private static boolean isDigit(int value) {
        return value >= 48 && value <= 57;
    }

    private static void fine(int how, String text, int answer) {
        Due.fine(Due.made(ISLES), how, text, answer);
    }

    private static void fault(int how, String text, int kind, int place) {
        Due.fault(Due.made(ISLES), how, text, kind, place);
    }

    private static void readsIf(boolean isFine, int how, String text, int answer, int place) {
        if (isFine) {
            fine(how, text, answer);
        } else {
            fault(how, text, 1, place);
        }
    }

    private static String blanks(int n) {
        return " ".repeat(n);
    }

    /** "with blanks (32, 10) between them or not" */
    private static void bytesBetweenTokens() {
        for (int value = 0; value < 256; value++) {
            boolean run = isLetter(value) || isDigit(value);
            readsIf(isBlank(value), Due.SEA, "heat" + (char) value + "5;", 1, run ? 0 : 4);
            boolean goesOn = isBlank(value) || isDigit(value);
            readsIf(goesOn, Due.SEA, "heat 2" + (char) value + ";", 1, isLetter(value) ? 5 : value == ';' ? 7 : 6);
        }
    }

    private static void bytesAroundALine() {
        for (int value = 0; value < 256; value++) {
            readsIf(isBlank(value), Due.SEA, (char) value + "heat 5;", 1, 0);
            readsIf(isBlank(value), Due.SEA, "heat 5;" + (char) value, 1, 7);
            if (isLetter(value)) {
                fault(Due.BOOK, "day 5;" + (char) value + "day 5;", 3, 6);
            } else {
                readsIf(isBlank(value), Due.BOOK, "day 5;" + (char) value + "day 5;", -1, 6);
            }
            boolean run = isLetter(value) || isDigit(value);
            readsIf(isBlank(value), Due.SENTENCE, "eaten" + (char) value, 1, run ? 0 : 5);
        }
        fine(Due.SEA, "heat 5;cools 1;skin 1;", 3);
        fine(Due.SENTENCE, "not(load<5)", 3);
    }

    /** "; < = > ( )": each where it can come, and no other byte there. */
    private static void bytesOfSigns() {
        for (int value = 0; value < 256; value++) {
            char sign = (char) value;
            boolean run = isLetter(value) || isDigit(value);
            int behindBlank = isBlank(value) ? 1 : 0;
            readsIf(value >= 60 && value <= 62, Due.SENTENCE, "load" + sign + "5", 1, run ? 0 : 4 + behindBlank);
            readsIf(value == 40, Due.SENTENCE, sign + "eaten)", 2, isBlank(value) ? 6 : 0);
            readsIf(value == 41, Due.SENTENCE, "(eaten" + sign, 2, run ? 1 : 6 + behindBlank);
            if (!isDigit(value)) {
                int place = isLetter(value) ? 5 : 6 + behindBlank;
                readsIf(value == 59, Due.SEA, "heat 2" + sign, 1, place);
            }
        }
    }

    /** "WORDS: small letters": each of them, and no other byte. */
    private static void bytesOfNames() {
        for (int value = 0; value < 256; value++) {
            readsIf(isLetter(value), Due.SEA, "lump " + (char) value + " 0 0;", 1, isBlank(value) ? 7 : 5);
            if (!isBlank(value)) {
                boolean letter = isLetter(value);
                int place = isDigit(value) ? 5 : 6;
                readsIf(letter, Due.SEA, "lump z" + (char) value + " 0 0;", 1, place);
            }
        }
    }

    /** "1 to 7": NAMES of every length, and names that differ in one place alone. */
    private static void lengthOfWords() {
        for (int n = 1; n <= 40; n++) {
            readsIf(n <= 7, Due.SEA, "lump " + "z".repeat(n) + " 0 0;", 1, 5);
            readsIf(n <= 7, Due.SEA, "boat " + "a".repeat(n) + " 0 0 0 1;", 1, 5);
        }
        PorridgeSea x = Due.made("boat a 0 0 0 1;boat aa 1 0 0 1;boat aaaaaaa 2 0 0 1;boat aaaaaab 3 0 0 1;"
                + "boat baaaaaa 0 1 0 1;boat aaaaaa 1 1 0 1;");
        String[] charts = {"a at 0 0", "aa at 1 0", "aaaaaaa at 2 0", "aaaaaab at 3 0", "baaaaaa at 0 1",
            "aaaaaa at 1 1"};
        for (int b = 0; b < 6; b++) {
            Due.due("chart(" + b + ")", Due.chart(x, b), charts[b]);
        }
        Due.fine(x, Due.BOOK, "aaaaaaa south;", -1);
        Due.due("it alone was rowed", x.boat(2, 1), 1);
        Due.fault(x, Due.BOOK, "aaaaaaaa south;", 1, 0);
        Due.fault(x, Due.BOOK, "aaa south;", 3, 0);
    }

    /** "NUMBERS: 1 to 3 digits": more are no TOKEN, even if they would wrap around to one. */
    private static void lengthOfNumbers() {
        String[] fine = {"5", "05", "005", "0", "00", "000", "30", "030"};
        for (String digits : fine) {
            fine(Due.SEA, "heat " + digits + ";", 1);
        }
        String[] none = {"0005", "0000", "4294967301", "18446744073709551621", "00000000000000000005"};
        for (String digits : none) {
            fault(Due.SEA, "heat " + digits + ";", 1, 5);
            fault(Due.SENTENCE, "load = " + digits, 1, 7);
        }
        fault(Due.SEA, "heat 031;", 2, 5);
        fault(Due.SEA, "heat 999;", 2, 5);
        fault(Due.SEA, "heat 1000;", 1, 5);
        fine(Due.SENTENCE, "load < 999", 1);
        PorridgeSea x = Due.made("heat 010;");
        Due.due("ten, not eight", x.now(1), 10);
        for (int digit = 0; digit <= 9; digit++) {
            Due.due("heat 1" + digit, Due.made("heat 1" + digit + ";").now(1), 10 + digit);
        }
    }

    /** "A WORD, NUMBER goes on as long as small letters and digits do" */
    private static void runsOfLettersAndDigits() {
        fault(Due.SEA, "heat5;", 1, 0);
        fault(Due.SEA, "heat 5cools 1;", 1, 5);
        fault(Due.SEA, "thick 0 0 1thick 1 1 1;", 1, 10);
        fault(Due.SEA, "lump rock0 0;", 1, 5);
        fault(Due.SEA, "lump 0rock 0;", 1, 5);
        fault(Due.BOOK, "day5;", 1, 0);
        fault(Due.BOOK, "stir row0 on;", 1, 5);
        fault(Due.BOOK, "stir row 0on;", 1, 9);
        fault(Due.SENTENCE, "noteaten", 1, 0);
        fault(Due.SENTENCE, "load=5or eaten", 1, 5);
        fine(Due.SENTENCE, "load=5 or(eaten)", 3);
    }

    private static void emptyTexts() {
        fine(Due.SEA, "", 0);
        fine(Due.BOOK, "", -1);
        fault(Due.SENTENCE, "", 1, 0);
        for (int n = 1; n < 5; n++) {
            fine(Due.SEA, blanks(n), 0);
            fine(Due.BOOK, "\n".repeat(n), -1);
            fault(Due.SENTENCE, blanks(n), 1, n);
        }
        fault(Due.SEA, ";", 1, 0);
        fault(Due.BOOK, ";", 1, 0);
        fault(Due.SENTENCE, ";", 1, 0);
        PorridgeSea x = Due.made("sea 2 2;heat 5;cools 2;skin 4;thick 0 0 1;" + ISLES.replace("2 2", "1 1"));
        Due.fine(x, Due.SEA, "", 0);
        Due.due("an empty SEA", Due.state(x), Due.state(new PorridgeSea()));
    }

    private static final String[] WHOLE = {
        "sea 4 4 ; thick 0 0 1 ; lump aa 0 0 ; boat bb 0 0 0 1 ; heat 0 ; cools 0 ; skin 0 ;",
        "stir row 0 on ; stir column 0 back ; cup east ; flour 0 0 1 ; milk 0 0 1 ; stove 1 ; day 1 ;",
        "not ( eaten or by rock and load < 1 ) and ( afloat or not landed or number = 3 )"};

    /** Whether a text that breaks off behind this TOKEN is whole there. */
    private static boolean isWhole(int how, String[] tokens, int count) {
        if (how != Due.SENTENCE) {
            return count == 0 || tokens[count - 1].equals(";");
        }
        return count == tokens.length || count == 11;
    }

    /** "the end: how many bytes there are" */
    private static void theEndOfATextTooEarly() {
        for (int how = 0; how < 3; how++) {
            String[] tokens = WHOLE[how].split(" ");
            String text = "";
            for (int count = 0; count <= tokens.length; count++) {
                if (!isWhole(how, tokens, count)) {
                    fault(how, text, 1, text.length());
                    fault(how, text + " \n ", 1, text.length() + 3);
                } else {
                    int read = Due.read(Due.made(ISLES), how, text);
                    Due.due("'" + text + "' is whole", read >= (how == Due.BOOK ? -1 : 0), true);
                }
                text += count < tokens.length ? (count == 0 ? "" : " ") + tokens[count] : "";
            }
        }
    }

    /** "1 no TOKEN, or one that can't come (at it" */
    private static void noTokenAtAnyPlace() {
        String[] none = {"?", ".", "Heat", "abcdefgh", "0000", "1a", "\t", "\r", "\u00e9", "\u00a0"};
        for (int how = 0; how < 3; how++) {
            String text = WHOLE[how];
            for (int place = 0; place <= text.length(); place++) {
                if (place == 0 || text.charAt(place - 1) == ' ') {
                    for (String token : none) {
                        fault(how, text.substring(0, place) + token + " " + text.substring(place), 1, place);
                    }
                }
            }
            fault(how, text + " ?", 1, text.length() + 1);
        }
    }

    /** "a text of at most 900 bytes", 400, 200: "the most bytes told, if there are more" */
    private static void mostBytes() {
        String[] texts = {"heat 5;", "day 5;", "eaten"};
        int[] answers = {1, -1, 1};
        for (int how = 0; how < 3; how++) {
            int most = MOST[how];
            String text = texts[how];
            fine(how, text + blanks(most - text.length()), answers[how]);
            fine(how, blanks(most - text.length()) + text, answers[how]);
            for (int more = 1; more <= 40; more++) {
                fault(how, text + blanks(most - text.length() + more), 1, most);
                fault(how, "\n".repeat(most + more), 1, most);
                fault(how, blanks(most - 1 + more - text.length()) + "?" + text, 1,
                        Math.min(most, most - 1 + more - text.length()));
                fault(how, "?" + blanks(most - 1 + more), 1, 0);
            }
        }
        fine(Due.SEA, blanks(900), 0);
        fine(Due.BOOK, blanks(400), -1);
        fault(Due.SENTENCE, blanks(200), 1, 200);
    }

    /** "if there are more and no FAULT is ahead: TOKENS that begin ahead of it are read whole" */
    private static void tokensOverTheMostBytes() {
        fault(Due.SEA, blanks(894) + "heat 305;", 2, 899);
        fault(Due.SEA, blanks(894) + "heat 030;", 1, 900);
        fault(Due.SEA, blanks(894) + "heat 0300;", 1, 899);
        fault(Due.SEA, blanks(895) + "heat 305;", 1, 900);
        fault(Due.SEA, blanks(899) + "heat 5;", 1, 900);
        fault(Due.SEA, blanks(899) + "heats 5;", 1, 899);
        fault(Due.SEA, "heat 5;" + blanks(892) + "heat 5;", 3, 899);
        fault(Due.SEA, "heat 5;" + blanks(893) + "heat 5;", 1, 900);
        fault(Due.SEA, blanks(890) + "thick 0 0 1;", 1, 900);
        fault(Due.SEA, blanks(889) + "thick 0 0 1;", 1, 900);
        fine(Due.SEA, blanks(888) + "thick 0 0 1;", 1);
        fault(Due.SEA, "thick 3 3 1;" + blanks(879) + "thick 3 3 1;", 3, 899);
        fault(Due.SEA, "thick 3 3 1;" + blanks(880) + "thick 3 3 1;", 1, 900);
        fault(Due.BOOK, blanks(394) + "stove 21;", 1, 400);
        fault(Due.BOOK, blanks(393) + "stove 21;", 2, 399);
        fault(Due.BOOK, blanks(393) + "stove 20;", 1, 400);
        fault(Due.BOOK, blanks(399) + "cup east;", 1, 400);
        fault(Due.BOOK, blanks(399) + "mug east;", 3, 399);
        fault(Due.BOOK, blanks(399) + "rock east;", 3, 399);
        fault(Due.BOOK, blanks(400) + "mug east;", 1, 400);
        fault(Due.BOOK, "cup east;".repeat(40) + blanks(39) + "cup east;", 4, 399);
        fault(Due.BOOK, "cup east;".repeat(40) + blanks(40) + "cup east;", 1, 400);
        fault(Due.SENTENCE, blanks(199) + "eaten", 1, 200);
        fault(Due.SENTENCE, blanks(199) + "rock", 1, 199);
        fault(Due.SENTENCE, blanks(196) + "by mug", 3, 199);
        fault(Due.SENTENCE, blanks(196) + "by rock", 1, 200);
        fault(Due.SENTENCE, blanks(197) + "by mug", 1, 200);
        fault(Due.SENTENCE, blanks(192) + "load = 1000", 1, 199);
        fault(Due.SENTENCE, blanks(192) + "load = 999", 1, 200);
    }

    /** "NONE, and none come, if it would have more than 940" */
    private static void feedUntilFull() {
        PorridgeSea x = new PorridgeSea();
        for (int i = 1; i <= 47; i++) {
            Due.due("feed", x.feed(0x20202020, 0x20202020, 0x20202020, 0x20202020, 0x20202020), 20 * i);
            Due.due("bytes of the tape", x.count(6), 20 * i);
        }
        for (int n = 940; n >= 921; n--) {
            Due.due("end(" + n + ")", x.end(n), true);
            Due.due("feed to " + (n + 20), x.feed(-1, -1, -1, -1, -1), -1);
            Due.due("none come", x.count(6), n);
        }
        Due.due("end(920)", x.end(920), true);
        Due.due("feed to 940", x.feed(-1, -1, -1, -1, -1), 940);
        Due.due("it is no SEA", x.sea(), -1 - 900);
        for (int i = 0; i < 47; i++) {
            x.feed(0x20202020, 0x20202020, 0x20202020, 0x20202020, 0x20202020);
        }
        x.feed(-1, -1, -1, -1, -1);
        x.end(900);
        Due.due("900 blanks, of 940", x.sea(), 0);
    }

    /** "of each number the highest first" */
    private static void feedTheHighestFirst() {
        PorridgeSea x = Due.made("sea 6 6;boat a 0 0 0 1;");
        x.feed(0x00010001, 0x00010001, 0x00010001, 0, 0);
        x.end(12);
        Due.due("0, 1 six times", x.sunk(), 36);
        x.feed(0x01000100, 0, 0, 0, 0);
        x.end(2);
        Due.due("1, 0: no such BOAT", x.sunk(), -1);
        x.feed(0x00ff0000, 0, 0, 0, 0);
        x.end(2);
        Due.due("0, 255", x.sunk(), -1);
        x.feed(0x80000000, 0, 0, 0, 0);
        x.end(2);
        Due.due("128, 0", x.sunk(), -1);
        x.feed('h' << 24 | 'e' << 16 | 'a' << 8 | 't', ' ' << 24 | '1' << 16 | '2' << 8 | ';',
                'c' << 24 | 'o' << 16 | 'o' << 8 | 'l', 's' << 24 | ' ' << 16 | '3' << 8 | ';',
                's' << 24 | 'k' << 16 | 'i' << 8 | 'n');
        x.feed(' ' << 24 | '4' << 16 | ';' << 8 | ' ', 0x0a0a0a0a, 0x20202020, 0x0a200a20, 0x20202020);
        Due.due("forty bytes", x.sea(), 3);
        Due.due("heat", x.now(1), 12);
        Due.due("cools", x.count(4), 3);
        Due.due("skin", x.count(5), 4);
    }

    /** "Twenty bytes come behind the tape" */
    private static void feedBehindTheEnd() {
        PorridgeSea x = new PorridgeSea();
        Due.tape(x, "heat 25;").end(6);
        Due.due("feed behind 6", x.feed('9' << 24 | ';' << 16 | 0x2020, 0x20202020, 0x20202020, 0x20202020,
                0x20202020), 26);
        Due.due("sea()", x.sea(), 1);
        Due.due("heat", x.now(1), 29);
    }

    /** "false, if it has not so many, or n is below 0" */
    private static void endOfTheTape() {
        PorridgeSea x = new PorridgeSea();
        Due.due("end(0) of an empty tape", x.end(0), true);
        Due.due("end(1) of an empty tape", x.end(1), false);
        Due.tape(x, "heat 7;");
        for (int n : Due.FAR) {
            Due.due("end(" + n + ")", x.end(n), false);
        }
        Due.due("end(-1)", x.end(-1), false);
        Due.due("end(8)", x.end(8), false);
        Due.due("the tape stays", x.count(6), 7);
        Due.due("end(7)", x.end(7), true);
        Due.due("the tape stays", x.count(6), 7);
        Due.due("end(6)", x.end(6), true);
        Due.due("end(7) of 6", x.end(7), false);
        Due.due("a LINE that is not ended", x.sea(), -1 - 6);
        Due.tape(x, "heat 7;");
        Due.due("end(0)", x.end(0), true);
        Due.due("an empty tape", x.count(6), 0);
        Due.due("an empty SEA", x.sea(), 0);
        Due.due("heat", x.now(1), 10);
    }

    /** "0 without one and ahead of any"; "a book() of -1000 leaves it" */
    private static void faultOfTheLatest() {
        PorridgeSea x = Due.made(ISLES);
        String[] faults = {"heat 5", "heat 31;", "heat 1;heat 1;",
            "lump a 0 0;lump b 0 1;lump c 0 2;lump d 0 3;lump e 1 0;lump f 1 1;lump g 1 2;"};
        for (int kind = 1; kind <= 4; kind++) {
            Due.due("sea() has a FAULT", Due.sea(x, faults[kind - 1]) < 0, true);
            Due.due("its kind", x.fault(), kind);
            Due.due("book(2)", x.book(2), -1000);
            Due.due("book(-1)", x.book(-1), -1000);
            x.sunk();
            x.restore(1);
            x.stir(9, 9, 9);
            x.undo();
            Due.due("other calls leave it", x.fault(), kind);
            Due.due("asked again", x.fault(), kind);
            Due.due("sea() without one", Due.sea(x, ISLES), 3);
            Due.due("0", x.fault(), 0);
        }
        Due.due("a BOOK that is WRONG has no FAULT", Due.book(x, "milk 0 0 1;", 0), 0);
        Due.due("0", x.fault(), 0);
        Due.sentence(x, "(");
        Due.due("of sentence()", x.fault(), 1);
        Due.book(x, "day 61;", 0);
        Due.due("of book(0)", x.fault(), 2);
        Due.sentence(x, "eaten");
        Due.due("0", x.fault(), 0);
        Due.book(x, "rock east;", 1);
        Due.due("of book(1)", x.fault(), 3);
        Due.book(x, "", 1);
        Due.due("0", x.fault(), 0);
    }

    /** "at most 512 calls": the last of them answers as the first. */
    private static void theLastCalls() {
        PorridgeSea x = new PorridgeSea();
        for (int i = 1; i <= 510; i++) {
            Due.due("stir " + i, x.stir(i % 2, i % 4, i / 2 % 2), 0);
        }
        Due.due("STIRS so far", x.now(6), 510);
        Due.due("the 512th call", x.undo(), 7);
        PorridgeSea y = new PorridgeSea();
        for (int i = 1; i <= 512; i++) {
            Due.due("feed " + i, y.feed(0, 0, 0, 0, 0), i <= 47 ? 20 * i : -1);
        }
    }
}

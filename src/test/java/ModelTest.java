import java.util.ArrayList;
import java.util.List;
import java.util.Map;
import java.util.Random;

/** Texts made by a fixed seed, whole and spoiled, read by the class and by the model: one answer. */
final class ModelTest {
    private static final int[] MOST = {900, 400, 200};
    private static final String SEA = "sea 4 3;heat 20;cools 1;skin 3;thick 1 1 4;thick 2 0 9;lump rock 1 1;"
            + "lump isle 3 2;boat cup 0 0 3 4;boat mug 2 0 5 2;boat pan 1 1 9 9;boat tin 3 0 0 1;";
    private static final Map<String, String> NAMES = Map.of("rock", "l0", "isle", "l1", "cup", "b0", "mug", "b1",
            "pan", "b2", "tin", "b3");

    private static final int[] KINDS = new int[5];

    private ModelTest() {
    }

    public static void main(String[] args) {
        Random random = new Random(41);
        for (int i = 0; i < 6000; i++) {
            seaBoth(Texts.sea(random));
            bookBoth(Texts.book(random, "cup|mug|pan|tin"), random);
            sentenceBoth(Texts.sentence(random, "rock|isle"), random);
        }
        for (int kind = 0; kind < 5; kind++) {
            Due.due("kind " + kind + " was among them", KINDS[kind] > 30, true);
        }
        Due.close("ModelTest");
    }

    // ---- both answers ----

    private static void faultBoth(PorridgeSea x, String text, int answer, int base, TextModel.Fault fault) {
        Due.due("'" + text + "'", answer, base - fault.place);
        Due.due("kind of '" + text + "'", x.fault(), fault.kind);
        KINDS[fault.kind]++;
    }

    private static void seaBoth(String text) {
        PorridgeSea x = new PorridgeSea();
        TextModel model = new TextModel(text, MOST[Due.SEA]);
        int answer = Due.sea(x, text);
        try {
            Due.due("'" + text + "'", model.readSea(), answer);
        } catch (TextModel.Fault fault) {
            faultBoth(x, text, answer, -1, fault);
            return;
        }
        KINDS[0]++;
        Due.due("kind of '" + text + "'", x.fault(), 0);
        Due.due("the SEA of '" + text + "'", Due.state(x), stateOf(model.lines));
    }

    /** What Due.state() tells of a new SEA, by its LINES. */
    private static String stateOf(List<String[]> lines) {
        int[] set = {4, 4, 10, 1, 3};
        int[] thick = new int[36];
        List<int[]> lumps = new ArrayList<>();
        List<int[]> boats = new ArrayList<>();
        for (String[] line : lines) {
            int[] n = new int[line.length];
            for (int i = 1; i < line.length; i++) {
                n[i] = line[i].matches("[0-9]+") ? Integer.parseInt(line[i]) : 0;
            }
            switch (line[0]) {
                case "sea" -> {
                    set[0] = n[1];
                    set[1] = n[2];
                }
                case "thick" -> thick[6 * n[2] + n[1]] = n[3];
                case "lump" -> lumps.add(n);
                case "boat" -> boats.add(n);
                default -> set[line[0].equals("heat") ? 2 : line[0].equals("cools") ? 3 : 4] = n[1];
            }
        }
        return told(set, thick, lumps, boats);
    }

    private static String told(int[] set, int[] thick, List<int[]> lumps, List<int[]> boats) {
        StringBuilder text = new StringBuilder();
        int sum = 0;
        for (int y = 0; y < set[1]; y++) {
            text.append(y == 0 ? "" : "/");
            for (int x = 0; x < set[0]; x++) {
                text.append(thick[6 * y + x]);
                sum += thick[6 * y + x];
            }
        }
        StringBuilder told = new StringBuilder();
        int afloat = 0;
        boolean skin = set[2] <= set[4];
        for (int[] lump : lumps) {
            told.append(" l").append(lump[2]).append(lump[3]);
        }
        for (int b = 0; b < boats.size(); b++) {
            int[] boat = boats.get(b);
            boolean floats = skin || thick[6 * boat[3] + boat[2]] >= boat[4];
            for (int[] lump : lumps) {
                floats |= lump[2] == boat[2] && lump[3] == boat[3];
            }
            afloat |= floats ? 1 << b : 0;
            told.append(" b").append(boat[2]).append(boat[3]).append(boat[4]).append(boat[5]).append(boat[5]);
            told.append("00").append(floats ? 1 : 0);
        }
        text.append(" 0 ").append(set[2]).append(skin ? " 1" : " 0").append(" 0 ").append(afloat).append(' ');
        text.append(sum).append(" 0 0 ").append(set[0]).append(' ').append(set[1]).append(' ').append(lumps.size());
        text.append(' ').append(boats.size()).append(' ').append(set[3]).append(' ').append(set[4]);
        return text.append(told).toString();
    }

    private static void bookBoth(String text, Random random) {
        PorridgeSea x = Due.made(SEA);
        PorridgeSea y = Due.made(SEA);
        int day = random.nextInt(3) == 0 ? 380 + random.nextInt(21) : random.nextInt(3);
        for (int left = day; left > 0; left -= 60) {
            x.days(Math.min(60, left));
            y.days(Math.min(60, left));
        }
        if (random.nextInt(3) > 0) {
            x.stove(20);
            y.stove(20);
        }
        TextModel model = new TextModel(text, MOST[Due.BOOK]);
        model.names.putAll(NAMES);
        String before = Due.state(x);
        int judged = Due.book(x, text, 0);
        Due.due("judged, all stays", Due.state(x), before);
        int answer = Due.book(x, text, 1);
        Due.due("judged as lived: '" + text + "'", judged, answer);
        try {
            model.readBook();
        } catch (TextModel.Fault fault) {
            faultBoth(x, text, answer, -2, fault);
            Due.due("all stays", Due.state(x), before);
            return;
        }
        KINDS[0]++;
        int line = 0;
        int why = 0;
        while (line < model.lines.size() && why == 0) {
            why = live(y, model.lines.get(line));
            line += why == 0 ? 1 : 0;
        }
        Due.due("'" + text + "'", answer, why == 0 ? -1 : line);
        Due.due("why '" + text + "'", x.told(0), why);
        Due.due("LINES", x.told(1), line);
        Due.due("the DAY then", x.told(2), y.now(0));
        Due.due("EATEN then", x.told(3), y.now(3));
        Due.due("the SEA behind '" + text + "'", Due.state(x), Due.state(y));
    }

    /** A LINE by the call that does the same: 0, or why it is WRONG. */
    private static int live(PorridgeSea x, String[] line) {
        int[] n = new int[4];
        for (int i = 1; i < line.length; i++) {
            n[i] = line[i].matches("[0-9]+") ? Integer.parseInt(line[i]) : 0;
        }
        switch (line[0]) {
            case "stir":
                return why(x.stir(line[1].equals("column") ? 1 : 0, n[2], line[3].equals("back") ? 1 : 0), 0);
            case "flour":
                return why(x.flour(n[1], n[2], n[3]), 20);
            case "milk":
                return why(x.milk(n[1], n[2], n[3]), 30);
            case "stove":
                return why(x.stove(n[1]), 40);
            case "day":
                return n[1] > 400 - x.now(0) ? 51 : x.days(n[1]) - n[1];
            default:
                int side = List.of(TextModel.SIDES.split("\\|")).indexOf(line[1]);
                return why(x.row(NAMES.get(line[0]).charAt(1) - '0', side), 10);
        }
    }

    private static int why(int answer, int base) {
        return answer == 0 ? 0 : base + (answer == -1 ? 9 : answer);
    }

    private static void sentenceBoth(String text, Random random) {
        PorridgeSea x = Due.made(SEA);
        x.drawn(1 + random.nextInt(8), random.nextInt());
        x.row(random.nextInt(4), random.nextInt(4));
        TextModel model = new TextModel(text, MOST[Due.SENTENCE]);
        model.names.putAll(NAMES);
        int answer = Due.sentence(x, text);
        TextModel.Judge judge;
        try {
            judge = model.readSentence(factsOf(x));
        } catch (TextModel.Fault fault) {
            faultBoth(x, text, answer, -1, fault);
            Due.due("no SENTENCE", x.said(-1), -1);
            return;
        }
        KINDS[0]++;
        Due.due("ONES of '" + text + "'", answer, model.ones);
        int said = 0;
        for (int b = 0; b < 4; b++) {
            if (judge.holds(b)) {
                Due.due("'" + text + "' said", x.said(said), b);
                said++;
            }
        }
        Due.due("'" + text + "' said of", x.said(-1), said);
        Due.due("none behind them", x.said(said), -1);
    }

    private static TextModel.Facts factsOf(PorridgeSea x) {
        return new TextModel.Facts() {
            @Override
            public int ofBoat(int b, int what) {
                return x.boat(b, what);
            }

            @Override
            public int ofLump(int l, int what) {
                return x.lump(l, what);
            }

            @Override
            public int lumps() {
                return x.count(2);
            }
        };
    }
}

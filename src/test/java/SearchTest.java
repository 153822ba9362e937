import java.util.Comparator;
import java.util.HashSet;
import java.util.PriorityQueue;
import java.util.Random;
import java.util.Set;

/** Searches against plain ones that try everything, on seas made by a fixed seed. */
final class SearchTest {
    private static final int[] DX = {1, 0, -1, 0};
    private static final int[] DY = {0, 1, 0, -1};

    private SearchTest() {
    }

    public static void main(String[] args) {
        Random random = new Random(20261118);
        for (int i = 0; i < 250; i++) {
            PorridgeSea x = Due.made(seaText(random, 4));
            ways(x);
            meetings(x, random);
            sunkCells(x, random);
            fleets(x);
        }
        for (int i = 0; i < 400; i++) {
            PorridgeSea x = Due.made(seaText(random, 6));
            sunkCells(x, random);
            waysOverAllCells(x);
        }
        everyMeeting();
        Due.close("SearchTest");
    }

    private static String seaText(Random random, int most) {
        int wide = 2 + random.nextInt(most - 1);
        int high = 2 + random.nextInt(most - 1);
        StringBuilder text = new StringBuilder("sea " + wide + " " + high + ";");
        // Many thin cells make many ways that cost the same.
        int thin = random.nextInt(3);
        for (int cell = 0; cell < wide * high; cell++) {
            int thick = random.nextInt(3) < thin ? 0 : random.nextInt(10);
            if (thick > 0) {
                text.append("thick " + cell % wide + " " + cell / wide + " " + thick + ";");
            }
        }
        int lumpCell = random.nextInt(wide * high);
        text.append("lump rock " + lumpCell % wide + " " + lumpCell / wide + ";");
        int boats = 1 + random.nextInt(6);
        for (int b = 0; b < boats; b++) {
            text.append("boat " + (char) ('a' + b) + " " + random.nextInt(wide) + " " + random.nextInt(high) + " "
                    + random.nextInt(10) + " " + (1 + random.nextInt(5)) + ";");
        }
        return text.append(random.nextInt(8) == 0 ? "heat 1;" : "").toString();
    }

    // ---- WAY: every path without a cell twice, SIDES in order ----

    private static int bestCost;
    private static String bestSides;

    private static void ways(PorridgeSea x) {
        for (int b = 0; b < x.count(3); b++) {
            bestCost = -1;
            bestSides = "";
            walk(x, x.boat(b, 0), x.boat(b, 1), x.boat(b, 3), 0, "", 0);
            Due.due("way", x.way(b, 0), bestCost);
            if (bestCost >= 0) {
                Due.due("its SIDES", Due.sides(x), bestSides);
                Due.due("its DAYS", x.wayDays(), daysOf(x, b));
            }
        }
    }

    private static void walk(PorridgeSea x, int column, int row, int spoons, int cost, String sides, long seen) {
        if (x.thick(column, row) < 0 || (seen >> (6 * row + column) & 1) == 1 || bestCost >= 0 && cost > bestCost) {
            return;
        }
        if (column == x.lump(0, 0) && row == x.lump(0, 1)) {
            if (bestCost < 0 || cost < bestCost || cost == bestCost && sides.length() < bestSides.length()) {
                bestCost = cost;
                bestSides = sides;
            }
            return;
        }
        for (int side = 0; side < 4; side++) {
            int price = x.cost(column + DX[side], row + DY[side]);
            if (price > 0 && price <= spoons) {
                walk(x, column + DX[side], row + DY[side], spoons, cost + price, sides + side,
                        seen | 1L << (6 * row + column));
            }
        }
    }

    private static int daysOf(PorridgeSea x, int b) {
        int column = x.boat(b, 0);
        int row = x.boat(b, 1);
        int days = 0;
        int left = 0;
        for (int i = 0; i < bestSides.length(); i++) {
            int side = bestSides.charAt(i) - '0';
            column += DX[side];
            row += DY[side];
            if (left < x.cost(column, row)) {
                days++;
                left = x.boat(b, 3);
            }
            left -= x.cost(column, row);
        }
        return days;
    }

    // ---- WAY again: partial ways from the best on, first to come to a cell is best there ----

    private record Path(int column, int row, int cost, String sides) {
    }

    private static void waysOverAllCells(PorridgeSea x) {
        for (int b = 0; b < x.count(3); b++) {
            Path best = bestPath(x, b);
            Due.due("way over all cells", x.way(b, 0), best == null ? -1 : best.cost);
            if (best != null) {
                Due.due("its SIDES", Due.sides(x), best.sides);
            }
        }
    }

    private static Path bestPath(PorridgeSea x, int b) {
        PriorityQueue<Path> open = new PriorityQueue<>(Comparator.comparingInt(Path::cost)
                .thenComparingInt(path -> path.sides.length()).thenComparing(Path::sides));
        Set<Integer> seen = new HashSet<>();
        open.add(new Path(x.boat(b, 0), x.boat(b, 1), 0, ""));
        while (!open.isEmpty()) {
            Path path = open.poll();
            if (path.column == x.lump(0, 0) && path.row == x.lump(0, 1)) {
                return path;
            }
            boolean first = seen.add(6 * path.row + path.column);
            for (int side = 0; first && side < 4; side++) {
                int price = x.cost(path.column + DX[side], path.row + DY[side]);
                if (price > 0 && price <= x.boat(b, 3)) {
                    open.add(new Path(path.column + DX[side], path.row + DY[side], path.cost + price,
                            path.sides + side));
                }
            }
        }
        return null;
    }

    // ---- MEET: every pair of cells in every size ----

    private static void everyMeeting() {
        for (int wide = 2; wide <= 6; wide++) {
            for (int high = 2; high <= 6; high++) {
                for (int pair = 0; pair < wide * high * wide * high; pair++) {
                    meetingOf(wide, high, pair % (wide * high), pair / (wide * high));
                }
            }
        }
    }

    private static void meetingOf(int wide, int high, int boat, int lump) {
        int[] at = {boat % wide, boat / wide, lump % wide, lump / wide};
        PorridgeSea x = new PorridgeSea();
        String text = "sea " + wide + " " + high + ";boat b " + at[0] + " " + at[1] + " 0 1;lump l " + at[2] + " " + at[3]
                + ";";
        Due.sea(x, text);
        String want = null;
        for (int most = 0; most <= 3 && want == null; most++) {
            want = stirsTo(new int[] {wide, high}, at, most);
        }
        Due.due("meet of " + text, x.meet(0, 0), want == null ? -1 : want.length() / 4);
        Due.due("its STIRS of " + text, Due.stirs(x), want == null ? "" : want.trim());
    }

    private static String stirsTo(int[] size, int[] at, int left) {
        if (left == 0) {
            return Math.abs(at[0] - at[2]) + Math.abs(at[1] - at[3]) <= 1 ? "" : null;
        }
        for (int column = 0; column < 2; column++) {
            for (int n = 0; n < size[1 - column]; n++) {
                for (int back = 0; back < 2; back++) {
                    int[] then = at.clone();
                    for (int i = 0; i < 4; i += 2) {
                        if (at[i + 1 - column] == n) {
                            then[i + column] = Math.floorMod(at[i + column] + 1 - 2 * back, size[column]);
                        }
                    }
                    String rest = stirsTo(size, then, left - 1);
                    if (rest != null) {
                        return column + "" + n + back + " " + rest;
                    }
                }
            }
        }
        return null;
    }

    // ---- MEET: every run of STIRS, done by stir() and undone ----

    private static void meetings(PorridgeSea x, Random random) {
        int b = random.nextInt(x.count(3));
        boolean cold = x.now(2) == 1;
        int got = x.meet(b, 0);
        String stirs = Due.stirs(x);
        if (cold) {
            x.stove(20);
        }
        int want = -1;
        String wanted = "";
        for (int most = 0; most <= 3 && want < 0; most++) {
            wanted = stirTo(x, b, most);
            want = wanted == null ? -1 : most;
        }
        Due.due("meet", got, want);
        if (want >= 0) {
            Due.due("its STIRS", stirs, wanted.trim());
        }
        if (cold) {
            x.undo();
        }
    }

    private static String stirTo(PorridgeSea x, int b, int left) {
        if (left == 0) {
            int off = Math.abs(x.boat(b, 0) - x.lump(0, 0)) + Math.abs(x.boat(b, 1) - x.lump(0, 1));
            return off <= 1 ? "" : null;
        }
        for (int column = 0; column < 2; column++) {
            for (int n = 0; n < x.count(1 - column); n++) {
                for (int back = 0; back < 2; back++) {
                    x.stir(column, n, back);
                    String rest = stirTo(x, b, left - 1);
                    x.undo();
                    if (rest != null) {
                        return column + "" + n + back + " " + rest;
                    }
                }
            }
        }
        return null;
    }

    // ---- SUNK and SEND ----

    private static boolean floats(PorridgeSea x, int b, int column, int row) {
        boolean lump = x.lump(0, 0) == column && x.lump(0, 1) == row;
        return x.now(2) == 1 || lump || x.thick(column, row) >= x.boat(b, 2);
    }

    private static void sunkCells(PorridgeSea x, Random random) {
        int[] pairs = new int[2 * (1 + random.nextInt(2))];
        for (int i = 0; i < pairs.length; i += 2) {
            pairs[i] = random.nextInt(x.count(3));
            pairs[i + 1] = random.nextInt(2);
        }
        int[] floating = new int[6];
        int found = 0;
        int[] cells = new int[36];
        for (int cell = 0; cell < 36; cell++) {
            boolean fits = x.thick(cell % 6, cell / 6) >= 0;
            for (int i = 0; i < pairs.length && fits; i += 2) {
                fits = floats(x, pairs[i], cell % 6, cell / 6) == (pairs[i + 1] == 1);
            }
            if (fits) {
                cells[found++] = cell;
                for (int b = 0; b < x.count(3); b++) {
                    floating[b] += floats(x, b, cell % 6, cell / 6) ? 1 : 0;
                }
            }
        }
        Due.due("sunk", Due.sunk(x, pairs), found);
        for (int k = 0; k < found; k++) {
            Due.due("sunkAt", x.sunkAt(k), cells[k]);
        }
        int best = 0;
        for (int b = 1; b < x.count(3); b++) {
            best = Math.max(floating[b], found - floating[b]) < Math.max(floating[best], found - floating[best]) ? b : best;
        }
        if (found > 0) {
            Due.due("sunkAt behind the last", x.sunkAt(found), -1);
            Due.due("send", x.send(), best);
        }
    }

    // ---- FLEET: bits of each number of BOATS in turn ----

    private static void fleets(PorridgeSea x) {
        for (int n = 1; n <= 54; n += 5) {
            int want = -1;
            for (int many = 1; many <= 6 && want < 0; many++) {
                for (int bits = 0; bits < 64 && want < 0; bits++) {
                    int load = 0;
                    for (int b = 0; b < 6; b++) {
                        boolean aboard = (bits >> b & 1) == 1;
                        load += !aboard ? 0 : b < x.count(3) && x.boat(b, 6) == 0 ? x.boat(b, 2) : -999;
                    }
                    want = Integer.bitCount(bits) == many && load >= n ? bits : -1;
                }
            }
            Due.due("fleet", x.fleet(n), want < 0 ? -1 : Integer.bitCount(want));
            if (want >= 0) {
                Due.due("fleets", x.fleets(), want);
            }
        }
    }
}

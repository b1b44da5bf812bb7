import java.util.Random;

/** Promises 19 to 21: wishes, and the shortest round of the van. */
public final class VanRoundTest {
    private static int shortest;
    private static int[] shortestRow;

    public static void main(String[] args) {
        wishes();
        rounds();
        vanSizes();
        Random random = new Random(23);
        for (int i = 0; i < 400; i++) {
            againstAllRounds(random);
        }
        Check.end("VanRoundTest");
    }

    private static void wishes() {
        SwapGo x = new SwapGo();
        Check.due("19: no cabinet", x.wish(0, 1), false);
        x.cabinet(0, 0, 1, 0, 0);
        x.cabinet(0, 0, 1, 0, 0);
        Check.due("19: more than slots", x.wish(1, 8), true);
        Check.due("19: kept", x.in(1, 4), 8);
        Check.due("19: of the other", x.in(0, 4), 0);
        for (int wild : new int[] {Integer.MIN_VALUE, -1, 9, Integer.MAX_VALUE}) {
            Check.due("19: wild wish", x.wish(1, wild), false);
            Check.due("19: wild cabinet", x.wish(wild, 1), false);
        }
        Check.due("19: no such cabinet", x.wish(2, 1), false);
        Check.due("19: still kept", x.in(1, 4), 8);
        Check.due("19: none", x.wish(1, 0), true);
        Check.due("19: none kept", x.in(1, 4), 0);
    }

    private static void rounds() {
        SwapGo x = new SwapGo();
        Check.due("20: no cabinets", x.round(), 0);
        rowDue("21: no stops", x);
        x.cabinet(10, 20, 8, 0, 0);
        Check.due("20: none differs", x.round(), 0);
        x.pack(0, 50);
        Check.due("20: there and back", x.round(), 60);
        rowDue("21: one stop", x, 0);
        x.wish(0, 2);
        Check.due("20: what lacks is not there", x.round(), -2);
        rowDue("21: the one that is kept stays", x, 0);
        x.wish(0, 1);
        Check.due("20: none differs", x.round(), 0);
        rowDue("21: no stops", x);
        x.cabinet(20, 20, 8, 0, 0);
        x.wish(0, 2);
        x.pack(1, 50);
        x.sick(1, true);
        Check.due("20: first to the one with more, a sick one too", x.round(), 40 + 10 + 30);
        rowDue("21: two stops", x, 1, 0);
        x.cabinet(0, 0, 8, 0, 0);
        x.wish(2, 1);
        x.wish(0, 1);
        Check.due("20: 0, 0 is the last", x.round(), 80);
        rowDue("21: two stops", x, 1, 2);
        rounds0();
    }

    private static void rounds0() {
        SwapGo x = new SwapGo();
        for (int c = 0; c < 3; c++) {
            x.cabinet(0, 0, 8, 0, 0);
            x.pack(c, 90);
        }
        Check.due("20: all at 0, 0", x.round(), 0);
        rowDue("21: the first row", x, 0, 1, 2);
        x.take(0);
        Check.due("20: one is out", x.round(), 0);
        rowDue("21: it does not differ", x, 1, 2);
    }

    private static void vanSizes() {
        SwapGo x = new SwapGo();
        x.cabinet(1, 0, 8, 0, 0);
        x.cabinet(2, 0, 8, 0, 0);
        x.cabinet(3, 0, 8, 0, 0);
        for (int p = 0; p < 8; p++) {
            x.pack(p < 5 ? 0 : 1, 50);
        }
        x.wish(2, 5);
        Check.due("20: all eight at once", x.round(), 6);
        rowDue("21: as they lie", x, 0, 1, 2);
        x.set(4, 8);
        Check.due("20: just eight", x.round(), 6);
        rowDue("21: as they lie", x, 0, 1, 2);
        x.set(4, 7);
        Check.due("20: a smaller van", x.round(), 6);
        rowDue("21: it leaves five first", x, 0, 2, 1);
        x.set(4, 4);
        Check.due("20: too small", x.round(), -2);
        rowDue("21: the one that is kept stays", x, 0, 2, 1);
        Check.due("21: least", x.stop(Integer.MIN_VALUE), SwapGo.NONE);
        Check.due("21: -1", x.stop(-1), SwapGo.NONE);
        Check.due("21: greatest", x.stop(Integer.MAX_VALUE), SwapGo.NONE);
    }

    private static void againstAllRounds(Random random) {
        SwapGo x = new SwapGo();
        int cabinets = 1 + random.nextInt(6);
        int[] xs = new int[cabinets];
        int[] ys = new int[cabinets];
        int[] more = new int[cabinets];
        int wide = random.nextBoolean() ? 4 : 100;
        for (int c = 0; c < cabinets; c++) {
            xs[c] = random.nextInt(wide);
            ys[c] = random.nextInt(wide);
            x.cabinet(xs[c], ys[c], 8, 0, 0);
            int packs = random.nextInt(6);
            for (int p = 0; p < packs; p++) {
                if (x.pack(c, 10) != SwapGo.NONE) {
                    more[c]++;
                }
            }
            int wish = random.nextInt(6);
            x.wish(c, wish);
            more[c] -= wish;
        }
        int van = 1 + random.nextInt(12);
        x.set(4, van);
        shortest = -2;
        tryStops(xs, ys, more, van, new int[0]);
        Check.due("20: shortest of all rounds", x.round(), shortest);
        rowDue("21: the first of the shortest", x, shortest == -2 ? new int[0] : shortestRow);
    }

    /** Goes through all rows of stops, the first ones first, and measures each from its beginning. */
    private static void tryStops(int[] xs, int[] ys, int[] more, int van, int[] row) {
        boolean isWhole = true;
        for (int c = 0; c < xs.length; c++) {
            int stop = c;
            if (more[c] != 0 && java.util.Arrays.stream(row).noneMatch(s -> s == stop)) {
                isWhole = false;
                int[] longer = java.util.Arrays.copyOf(row, row.length + 1);
                longer[row.length] = c;
                tryStops(xs, ys, more, van, longer);
            }
        }
        int length = isWhole ? measure(xs, ys, more, van, row) : -2;
        if (length != -2 && (shortest == -2 || length < shortest)) {
            shortest = length;
            shortestRow = row;
        }
    }

    private static int measure(int[] xs, int[] ys, int[] more, int van, int[] row) {
        int atX = 0;
        int atY = 0;
        int load = 0;
        int length = 0;
        for (int c : row) {
            length += Math.abs(xs[c] - atX) + Math.abs(ys[c] - atY);
            atX = xs[c];
            atY = ys[c];
            load += more[c];
            if (load < 0 || load > van) {
                return -2;
            }
        }
        return length + atX + atY;
    }

    private static void rowDue(String what, SwapGo x, int... row) {
        for (int i = 0; i < row.length; i++) {
            Check.due(what + ", stop " + i, x.stop(i), row[i]);
        }
        Check.due(what + ", behind the last", x.stop(row.length), SwapGo.NONE);
    }
}

import java.util.Random;

/** Promises 15 to 18: needs, and the cheapest hours for them. */
public final class ChargePlanTest {
    private static final int[] WILD = {Integer.MIN_VALUE, -1, 21, Integer.MAX_VALUE};

    private static int least;
    private static int[] leastRow;

    public static void main(String[] args) {
        needs();
        cleared();
        plans();
        wholeRange();
        noNeedsBehindTooMany();
        Random random = new Random(17);
        for (int i = 0; i < 400; i++) {
            againstAllPlans(random);
        }
        Check.end("ChargePlanTest");
    }

    private static void needs() {
        SwapGo x = new SwapGo();
        for (int wild : WILD) {
            Check.due("15: need " + wild, x.need(wild), SwapGo.NONE);
        }
        for (int i = 1; i <= 12; i++) {
            Check.due("15: need", x.need(i % 2 == 0 ? 0 : 20), i);
        }
        Check.due("15: a thirteenth", x.need(1), SwapGo.NONE);
        Check.due("15: still twelve", x.count(6), 12);
    }

    private static void cleared() {
        SwapGo x = new SwapGo();
        Check.due("16: nothing to clear", x.clear(), 0);
        x.cabinet(1, 1, 8, 0, 0);
        x.pack(0, 90);
        x.need(1);
        x.need(2);
        x.point(0, 5, 5);
        x.point(1, 5, 5);
        x.plan(5);
        x.round();
        x.places(1);
        Check.due("16: two needs", x.clear(), 2);
        Check.due("16: no needs", x.count(6), 0);
        Check.due("16: no points", x.count(7), 0);
        Check.due("16: no places", x.count(8), 0);
        Check.due("16: the plan kept stays", x.planned(0) * 10 + x.planned(1), 30);
        Check.due("16: the round kept stays", x.stop(0), 0);
        Check.due("16: the bits kept stay", x.chosen(), 1);
        Check.due("16: packs stay", x.count(1), 1);
        Check.due("16: again", x.clear(), 0);
        Check.due("16: from the first on", x.need(4), 1);
        Check.due("16: from the first point on", x.point(0, 1, 1), 0);
        Check.due("16: from the first place on", x.point(1, 1, 1), 0);
    }

    private static void plans() {
        SwapGo x = new SwapGo();
        Check.due("18: none kept", x.planned(0), SwapGo.NONE);
        Check.due("17: no needs", x.plan(0), 0);
        Check.due("18: of no hours", x.planned(0), SwapGo.NONE);
        x.price(1, 4);
        x.need(2);
        x.need(3);
        Check.due("17: the last hour is cheap", x.plan(20), 2 * 10 + 3 * 4);
        rowDue("18: kept", x, 2, 3);
        Check.due("17: two lines", x.plan(2), SwapGo.NONE - 1);
        rowDue("18: kept when there is none", x, 2, 3);
        for (int wild : WILD) {
            Check.due("17: lines " + wild, x.plan(wild), SwapGo.NONE);
        }
        rowDue("18: kept when refused", x, 2, 3);
        Check.due("17: three lines", x.plan(3), 2 * 10 + 3 * 4);
        x.price(1, 10);
        Check.due("17: equal prices", x.plan(20), 50);
        rowDue("18: more in the first hour", x, 5, 0);
        Check.due("17: with four lines", x.plan(4), 50);
        rowDue("18: more in the first hour", x, 4, 1);
        x.need(0);
        rowDue("18: a need more does not change it", x, 4, 1);
        x.run(24);
        rowDue("18: nor do hours", x, 4, 1);
        x.price(2, 0);
        Check.due("17: hours of the next day", x.plan(20), 50);
        x.run(23);
        x.price(23, 7);
        x.price(0, 2);
        Check.due("17: from the last hour of a day on", x.plan(20), 2 * 7 + 3 * 2);
        rowDue("18: from the last hour of a day on", x, 2, 3, 0);
    }

    private static void wholeRange() {
        SwapGo x = new SwapGo();
        for (int i = 0; i < 12; i++) {
            x.price(i, 1000);
            x.need(20);
        }
        Check.due("17: as much as can be", x.plan(20), 240 * 1000);
        Check.due("17: one line too few", x.plan(19), -2);
        for (int i = 0; i < 12; i++) {
            Check.due("18: each hour", x.planned(i), 20);
        }
        Check.due("18: behind the last", x.planned(12), SwapGo.NONE);
        Check.due("18: least", x.planned(Integer.MIN_VALUE), SwapGo.NONE);
        Check.due("18: greatest", x.planned(Integer.MAX_VALUE), SwapGo.NONE);
    }

    private static void noNeedsBehindTooMany() {
        SwapGo x = new SwapGo();
        x.need(3);
        Check.due("17: more than the lines", x.plan(2), -2);
        x.clear();
        Check.due("17: no needs any more", x.plan(2), 0);
    }

    private static void againstAllPlans(Random random) {
        SwapGo x = new SwapGo();
        int start = random.nextInt(48);
        x.run(start);
        int[] needs = new int[1 + random.nextInt(5)];
        int[] prices = new int[needs.length];
        int most = 1 + random.nextInt(4);
        for (int i = 0; i < needs.length; i++) {
            needs[i] = random.nextInt(most + 1);
            prices[i] = random.nextInt(4);
            x.price((start + i) % 24, prices[i]);
            x.need(needs[i]);
        }
        for (int lines = 0; lines <= 6; lines++) {
            least = -2;
            tryHours(needs, prices, lines, new int[needs.length], 0);
            Check.due("17: least of all plans", x.plan(lines), least);
            if (least != -2) {
                rowDue("18: the first of the least", x, leastRow);
            }
        }
    }

    /** Goes through all rows of charges, more in the early hours first. */
    private static void tryHours(int[] needs, int[] prices, int lines, int[] row, int i) {
        if (i == row.length) {
            int have = 0;
            int cost = 0;
            for (int h = 0; h < row.length; h++) {
                have += row[h] - needs[h];
                cost += row[h] * prices[h];
                if (have < 0) {
                    return;
                }
            }
            if (have == 0 && (least == -2 || cost < least)) {
                least = cost;
                leastRow = row.clone();
            }
            return;
        }
        for (row[i] = lines; row[i] >= 0; row[i]--) {
            tryHours(needs, prices, lines, row, i + 1);
        }
    }

    private static void rowDue(String what, SwapGo x, int... row) {
        for (int i = 0; i < row.length; i++) {
            Check.due(what + ", hour " + i, x.planned(i), row[i]);
        }
        Check.due(what + ", behind the last", x.planned(row.length), SwapGo.NONE);
    }
}

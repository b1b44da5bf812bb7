/** The third of the terms: plans, rounds and places, one test for each sentence. */
final class Term3Edges {
    private static final int NONE = SwapGo.NONE;

    private Term3Edges() {
    }

    static void ask() {
        needs();
        chargePlan();
        planPrice();
        leastPlan();
        round();
        vanLoad();
        shortest();
        points();
        bestPlaces();
    }

    private static void needs() {
        Check.sentence("Terms", "NEEDS: at most 12 numbers (0 .. 20), one for each HOUR to come"
                + " (the first the HOUR that is).");
        for (int first : new int[] {0, 1, 11, 12, 13, 23, 24, 36, 47}) {
            SwapGo x = new SwapGo();
            int due = 0;
            for (int h = 0; h < 24; h++) {
                x.price(h, 100 + h * h);
            }
            x.run(first);
            for (int i = 0; i < 12; i++) {
                Check.due("a need more", x.need(1), i + 1);
                int hourOfDay = (first + i) % 24;
                due += 100 + hourOfDay * hourOfDay;
                Check.due("one charge each hour from " + first + " on", x.plan(1), due);
                Check.due("hours in it", Edge.plan(x).length, i + 1);
            }
            Check.due("a thirteenth", x.need(1), NONE);
            Check.due("twelve of them count", x.plan(1), due);
        }
        SwapGo x = new SwapGo();
        for (int v : Edge.outside(0, 20)) {
            Check.due("need " + v, x.need(v), NONE);
        }
        Check.due("the least", x.need(0), 1);
        Check.due("the most", x.need(20), 2);
        Check.due("none but these", x.plan(20), 200);
        x.price(5, 7);
        x.price(6, 7);
        x.run(5);
        Check.due("the first is for the hour that is then", x.plan(20), 140);
    }

    private static void chargePlan() {
        Check.sentence("Terms", "A CHARGE PLAN with L LINES (0 .. 20): how many charges in each of these HOURS"
                + " (at most L), such that up to the end of each HOUR there are at least as many as NEEDS up to it,"
                + " and in all just as many as all NEEDS.");
        for (int lines : Edge.outside(0, 20)) {
            Check.due("lines " + lines, new SwapGo().plan(lines), NONE);
        }
        planDue("no needs, no lines", 0, new int[0]);
        planDue("no needs, all lines", 20, new int[0]);
        planDue("nothing is needed", 0, new int[] {0}, 0);
        planDue("nothing is needed, nothing is charged", 20, new int[] {0, 0, 0}, 0, 0, 0);
        planDue("just the lines", 20, new int[] {20}, 20);
        planDue("one line", 1, new int[] {1}, 1);
        planDue("just the lines each hour", 3, new int[] {3, 3, 3}, 3, 3, 3);
        planDue("needs of an hour may be charged ahead of it", 19, new int[] {0, 20}, 19, 1);
        planDue("up to the end of the last hour", 1, new int[] {0, 0, 3}, 1, 1, 1);
        planDue("up to the end of a middle hour", 2, new int[] {0, 4, 0}, 2, 2, 0);
        planDue("in all just as many, though there are lines", 20, new int[] {2, 0, 1}, 3, 0, 0);
        noPlanDue("no line", 0, 1);
        noPlanDue("no line for the last hour", 0, 0, 0, 1);
        noPlanDue("one line too few", 19, 20);
        noPlanDue("lines of a later hour come too late", 2, 3, 0);
        noPlanDue("too late in the middle", 2, 1, 4, 0, 0);
        noPlanDue("too few up to the last hour", 2, 1, 2, 2, 2, 4);
        charging("early needs may not wait for a cheap hour", new int[] {10, 0}, 20, new int[] {2, 0}, 2, 0);
        charging("only late ones may", new int[] {10, 0}, 20, new int[] {2, 3}, 2, 3);
        charging("no charge more than needed though it is free", new int[] {0, 0}, 20, new int[] {1, 1}, 2, 0);
        charging("at most L in the cheap hour", new int[] {9, 1, 9}, 2, new int[] {0, 0, 5}, 2, 2, 1);
    }

    private static void planDue(String what, int lines, int[] needs, int... due) {
        charging(what, new int[0], lines, needs, due);
    }

    private static void charging(String what, int[] prices, int lines, int[] needs, int... due) {
        SwapGo x = new SwapGo();
        Edge.prices(x, prices);
        Edge.needs(x, needs);
        int sum = 0;
        for (int i = 0; i < due.length; i++) {
            sum += due[i] * (i < prices.length ? prices[i] : 10);
        }
        Check.due(what + ", its price", x.plan(lines), sum);
        Check.due(what, Edge.plan(x), due);
    }

    private static void noPlanDue(String what, int lines, int... needs) {
        SwapGo x = new SwapGo();
        Edge.needs(x, needs);
        Check.due(what, x.plan(lines), -2);
        Check.due(what + ", so none is kept", Edge.plan(x));
    }

    private static void planPrice() {
        Check.sentence("Terms", "Its PRICE: the sum of charges times PRICE of the HOUR.");
        SwapGo x = new SwapGo();
        Edge.needs(x, 20, 20, 20, 20, 20, 20, 20, 20, 20, 20, 20, 20);
        Check.due("at the first prices", x.plan(20), 2400);
        for (int h = 0; h < 12; h++) {
            x.price(h, 1000);
        }
        Check.due("the greatest there is", x.plan(20), 240000);
        for (int h = 0; h < 12; h++) {
            x.price(h, 0);
        }
        Check.due("all for nothing", x.plan(20), 0);
        x.price(11, 1);
        Check.due("the last hour alone", x.plan(20), 20);
        SwapGo y = new SwapGo();
        Edge.prices(y, 2, 30, 500);
        Edge.needs(y, 1, 1, 1);
        Check.due("one each hour", y.plan(1), 532);
        Check.due("two at first", y.plan(2), 34);
        Check.due("all at first", y.plan(3), 6);
        y.clear();
        Check.due("no charges", y.plan(3), 0);
    }

    private static void leastPlan() {
        Check.sentence("Terms", "LEAST: the least PRICE; of equal ones the one with more charges in the first HOUR"
                + " that is not alike.");
        charging("equal prices", new int[] {5, 5, 5}, 2, new int[] {0, 0, 3}, 2, 1, 0);
        charging("equal prices, room for all", new int[] {5, 5, 5}, 20, new int[] {1, 1, 1}, 3, 0, 0);
        charging("the last is cheapest", new int[] {5, 5, 1}, 2, new int[] {0, 0, 3}, 1, 0, 2);
        charging("the middle is cheapest", new int[] {5, 1, 5}, 2, new int[] {0, 0, 3}, 1, 2, 0);
        charging("the last two are", new int[] {5, 1, 1}, 2, new int[] {0, 1, 2}, 0, 2, 1);
        charging("the first and the last are", new int[] {1, 2, 1}, 3, new int[] {1, 1, 1}, 3, 0, 0);
        charging("the first and the last are, two lines", new int[] {1, 2, 1}, 2, new int[] {1, 1, 1}, 2, 0, 1);
        charging("each second one is", new int[] {2, 1, 2, 1}, 3, new int[] {0, 0, 0, 4}, 0, 3, 0, 1);
        charging("falling prices", new int[] {4, 3, 2, 1}, 2, new int[] {1, 1, 1, 1}, 1, 1, 1, 1);
        charging("growing prices", new int[] {1, 2, 3, 4}, 2, new int[] {1, 1, 1, 1}, 2, 2, 0, 0);
        charging("not alike in the second hour", new int[] {1, 3, 3, 3}, 1, new int[] {0, 0, 1, 1}, 1, 1, 0, 0);
        charging("one step cheaper is cheaper", new int[] {8, 7, 8}, 20, new int[] {0, 0, 9}, 0, 9, 0);
        charging("one step dearer is dearer", new int[] {7, 8, 7}, 20, new int[] {0, 0, 9}, 9, 0, 0);
    }

    private static void round() {
        Check.sentence("Terms", "A ROUND: a van that begins empty at 0, 0 goes to each CABINET that has another number"
                + " of PACKS than its WISH (told), once, and back: at one with more it takes what is more,"
                + " at one with fewer it leaves what lacks.");
        roundDue("one with more: there and back", new int[][] {{10, 20, 3, 0}}, 60, 0);
        roundDue("one with fewer: the van begins empty", new int[][] {{10, 20, 0, 3}}, -2);
        roundDue("as many as wished: not gone to", new int[][] {{10, 20, 3, 3}, {5, 5, 0, 0}}, 0);
        roundDue("only those that differ", new int[][] {{50, 50, 2, 2}, {1, 1, 2, 1}, {70, 1, 1, 1}}, 4, 1);
        roundDue("more first, though fewer is nearer", new int[][] {{1, 0, 0, 1}, {9, 0, 1, 0}}, 18, 1, 0);
        roundDue("what is more is taken, no less", new int[][] {{1, 0, 5, 2}, {2, 0, 0, 3}}, 4, 0, 1);
        roundDue("what is more is taken, no more", new int[][] {{1, 0, 5, 2}, {2, 0, 0, 4}}, -2);
        roundDue("what lacks is left, no more", new int[][] {{3, 0, 4, 0}, {2, 0, 1, 3}, {1, 0, 0, 2}}, 6, 0, 1, 2);
        roundDue("some may be left over", new int[][] {{3, 0, 8, 0}, {2, 0, 0, 1}}, 6, 0, 1);
        roundDue("at 0, 0 too", new int[][] {{0, 0, 1, 0}}, 0, 0);
        roundDue("six of them", new int[][] {{1, 0, 2, 0}, {2, 0, 0, 1}, {3, 0, 2, 0}, {4, 0, 0, 1}, {5, 0, 2, 0},
            {6, 0, 0, 1}}, 12, 0, 1, 2, 3, 4, 5);
        SwapGo x = new SwapGo();
        Check.due("no cabinets", x.round(), 0);
        Edge.stop(x, 7, 7, 0, 0);
        x.pack(0, 90);
        x.sick(x.pack(0, 100), true);
        x.wish(0, 1);
        Check.due("a sick one counts", x.round(), 28);
        x.take(0);
        Check.due("one that is out does not", x.round(), 0);
        x.wish(0, 2);
        Check.due("it lacks", x.round(), -2);
        x.bring(0, 0, 0);
        Check.due("one that came back counts", x.round(), 0);
    }

    /** Cabinets by x, y, packs and wish; the length of the round, and its stops if it can be. */
    private static void roundDue(String what, int[][] cabinets, int due, int... stops) {
        SwapGo x = new SwapGo();
        for (int[] c : cabinets) {
            Edge.stop(x, c[0], c[1], c[2], c[3]);
        }
        Check.due(what, x.round(), due);
        Check.due(what + ", its stops", Edge.stops(x), stops);
    }

    private static void vanLoad() {
        Check.sentence("Terms", "It can be, if it never has fewer than 0, or more than VAN (1 .. 30; at first 10),"
                + " of them.");
        Term1Edges.range(Edge.VAN);
        roundDue("just ten at first", new int[][] {{1, 0, 8, 0}, {2, 0, 2, 0}}, 4, 0, 1);
        roundDue("eleven are more than it can hold at first", new int[][] {{1, 0, 8, 0}, {2, 0, 3, 0}}, -2);
        roundDue("down to none", new int[][] {{1, 0, 2, 0}, {2, 0, 0, 2}}, 4, 0, 1);
        roundDue("one fewer than none", new int[][] {{1, 0, 2, 0}, {2, 0, 0, 3}}, -2);
        roundDue("eleven, if it leaves one between", new int[][] {{1, 0, 8, 0}, {2, 0, 3, 0}, {3, 0, 0, 1}}, 6,
                0, 2, 1);
        SwapGo x = new SwapGo();
        for (int c = 0; c < 6; c++) {
            Edge.stop(x, c, 0, 5, 0);
        }
        int[] vans = {1, 10, 29, 30};
        for (int van : vans) {
            x.set(Edge.VAN, van);
            Check.due("thirty in a van of " + van, x.round(), van == 30 ? 10 : -2);
        }
        SwapGo y = new SwapGo();
        Edge.stop(y, 1, 0, 1, 0);
        Edge.stop(y, 2, 0, 1, 0);
        Edge.stop(y, 3, 0, 0, 1);
        y.set(Edge.VAN, 1);
        Check.due("one at a time", y.round(), 6);
        Check.due("it leaves the first ahead of the second", Edge.stops(y), 0, 2, 1);
        y.set(Edge.VAN, 2);
        Check.due("two at a time", y.round(), 6);
        Check.due("both, then on", Edge.stops(y), 0, 1, 2);
    }

    private static void shortest() {
        Check.sentence("Terms", "SHORTEST: the least sum of DISTANCES; of equal ones the first by its row of CABINETS.");
        roundDue("all in one place: by number", new int[][] {{9, 9, 1, 0}, {9, 9, 1, 0}, {9, 9, 1, 0}}, 36, 0, 1, 2);
        roundDue("both ways round are as long", new int[][] {{0, 9, 1, 0}, {9, 9, 1, 0}, {9, 0, 1, 0}}, 36, 0, 1, 2);
        roundDue("the nearest is not first", new int[][] {{2, 2, 1, 0}, {0, 9, 1, 0}, {9, 0, 1, 0}}, 36, 1, 0, 2);
        roundDue("by length ahead of number", new int[][] {{0, 9, 1, 0}, {9, 0, 1, 0}, {9, 9, 1, 0}}, 36, 0, 2, 1);
        roundDue("as little shorter as can be", new int[][] {{1, 0, 1, 0}, {0, 1, 1, 0}, {1, 1, 1, 0}}, 4, 0, 2, 1);
        roundDue("the first row that can be", new int[][] {{0, 50, 0, 1}, {0, 49, 1, 0}, {1, 50, 1, 0}}, 102, 1, 0, 2);
        roundDue("the way home counts", new int[][] {{0, 10, 1, 0}, {0, 1, 1, 0}}, 20, 0, 1);
        roundDue("a longer way, as the short one cannot be", new int[][] {{1, 0, 0, 1}, {0, 90, 1, 0}, {2, 0, 0, 0}},
                182, 1, 0);
    }

    private static void points() {
        Check.sentence("Terms", "POINTS of riders 0 .. (at most 12) and PLACES 0 .. (at most 8), each x, y.");
        SwapGo x = new SwapGo();
        int[] most = {12, 8};
        for (int what = 0; what < 2; what++) {
            for (int v : Edge.outside(0, 99)) {
                Check.due("x " + v, x.point(what, v, 50), NONE);
                Check.due("y " + v, x.point(what, 50, v), NONE);
            }
            Check.due("x least, y most", x.point(what, 0, 99), 0);
            Check.due("x most, y least", x.point(what, 99, 0), 1);
            for (int i = 2; i < most[what]; i++) {
                Check.due("its number", x.point(what, 50, 50), i);
            }
            Check.due("one more than " + most[what], x.point(what, 50, 50), NONE);
        }
        Check.due("points", x.count(7), 12);
        Check.due("places", x.count(8), 8);
        SwapGo y = new SwapGo();
        for (int i = 0; i < 8; i++) {
            y.point(1, 50, 50);
        }
        Check.due("no place left, but a point", y.point(0, 50, 50), 0);
        Check.due("two may be at the same x, y", y.point(0, 50, 50), 1);
    }

    private static void bestPlaces() {
        Check.sentence("Terms", "BEST k PLACES: with the least sum, over POINTS, of the DISTANCE to the nearest of them"
                + " or CABINET; of equal ones the first row of PLACES.");
        int[][] none = {};
        int[][] ends = {{0, 0}, {90, 0}};
        bestDue("no points: the first row", none, none, new int[][] {{1, 1}, {2, 2}, {3, 3}}, 2, 0, 0b011);
        bestDue("none of them: the nearest cabinet", new int[][] {{10, 0}, {60, 0}}, ends, ends, 0, 40, 0);
        bestDue("the nearest of place and cabinet", new int[][] {{10, 0}}, ends, new int[][] {{0, 0}, {80, 0}}, 1, 20,
                0b10);
        bestDue("no cabinet: the middle of all", none, ends, new int[][] {{0, 0}, {45, 1}, {90, 0}}, 1, 90, 0b001);
        bestDue("one step nearer", none, new int[][] {{50, 50}}, new int[][] {{50, 52}, {50, 51}, {49, 50}, {51, 50}},
                1, 1, 0b0010);
        bestDue("equal ones: the first", none, new int[][] {{50, 50}}, new int[][] {{99, 99}, {51, 50}, {50, 51}}, 1,
                1, 0b010);
        bestDue("more than are of use: with the first ones", none, new int[][] {{50, 50}},
                new int[][] {{99, 99}, {98, 98}, {50, 50}, {97, 97}}, 2, 0, 0b0101);
        bestDue("rows, not bits: 0 and 3 ahead of 1 and 2", none, new int[][] {{10, 0}, {0, 10}, {20, 10}, {10, 20}},
                new int[][] {{0, 0}, {20, 0}, {0, 20}, {20, 20}}, 2, 40, 0b1001);
        bestDue("no place is of use", new int[][] {{5, 5}}, new int[][] {{5, 5}}, new int[][] {{5, 5}, {5, 5}}, 1, 0,
                0b01);
        bestDue("all of them", none, ends, new int[][] {{1, 0}, {89, 0}, {50, 50}}, 3, 2, 0b111);
        bestDue("the sum, not the farthest", none, new int[][] {{0, 0}, {0, 0}, {0, 0}, {60, 0}},
                new int[][] {{30, 0}, {0, 0}}, 1, 60, 0b10);
    }

    private static void bestDue(String what, int[][] cabinets, int[][] riders, int[][] sites, int k, int due, int bits) {
        SwapGo x = new SwapGo();
        for (int[] c : cabinets) {
            x.cabinet(c[0], c[1], 1, 0, 0);
        }
        for (int[] r : riders) {
            x.point(0, r[0], r[1]);
        }
        for (int[] s : sites) {
            x.point(1, s[0], s[1]);
        }
        Check.due(what, x.places(k), due);
        Check.due(what + ", their bits", x.chosen(), bits);
    }
}

/** Promises 15 to 24, one test for each sentence. */
final class PlanEdges {
    private static final int NONE = SwapGo.NONE;

    private PlanEdges() {
    }

    static void ask() {
        need();
        needRefused();
        clear();
        plan();
        planRefused();
        planned();
        wish();
        wishRefused();
        round();
        roundRefused();
        stop();
        point();
        pointRefused();
        places();
        placesRefused();
        chosen();
    }

    private static void need() {
        Check.sentence("Promise 15", "A number more of NEEDS: how many there are.");
        SwapGo x = new SwapGo();
        int all = 0;
        for (int i = 1; i <= 12; i++) {
            int v = i == 1 ? 20 : i == 12 ? 0 : i;
            Check.due("need " + i, x.need(v), i);
            Check.due("so many", x.count(6), i);
            all += v;
            Check.due("behind the others", x.plan(20), all * 10);
        }
    }

    private static void needRefused() {
        Check.sentence("Promise 15", "Refused: others, 12.");
        SwapGo x = new SwapGo();
        for (int v : Edge.outside(0, 20)) {
            Check.due("need " + v, x.need(v), NONE);
        }
        Check.due("none is there", x.count(6), 0);
        for (int i = 1; i <= 12; i++) {
            Check.due("a right one", x.need(1), i);
        }
        Check.due("twelve there are", x.need(1), NONE);
        Check.due("nor nothing", x.need(0), NONE);
        Check.due("nor another number", x.need(21), NONE);
        Check.due("twelve still", x.count(6), 12);
        Check.due("of one each", x.plan(1), 120);
    }

    private static void clear() {
        Check.sentence("Promise 16", "No NEEDS, POINTS, PLACES: how many NEEDS there were.");
        SwapGo x = new SwapGo();
        Check.due("empty", x.clear(), 0);
        fillAll(x);
        x.point(0, 90, 90);
        Check.due("full", x.clear(), 12);
        int[] left = {0, 0, 0};
        for (int i = 0; i < 3; i++) {
            Check.due("none of " + (6 + i), x.count(6 + i), left[i]);
        }
        Check.due("nothing to plan for", x.plan(0), 0);
        Check.due("no place to choose", x.places(1), NONE);
        Check.due("again", x.clear(), 0);
        fillAll(x);
        Check.due("full again, from the first on", x.count(6) * 10000 + x.count(7) * 100 + x.count(8), 121208);
        Check.due("needs told anew", x.plan(20), 120);
        Check.due("points and places told anew", x.places(1), 0);
        x.clear();
        x.point(0, 1, 1);
        x.point(1, 3, 3);
        Check.due("points and places, but no needs", x.clear(), 0);
        Check.due("no point", x.count(7), 0);
        Check.due("no place", x.count(8), 0);
        x.point(0, 5, 5);
        x.point(1, 6, 6);
        Check.due("what was cleared is forgotten", x.places(1), 2);
        Edge.needs(x, 3);
        Check.due("one need", x.clear(), 1);
        clearLeavesTheRest();
    }

    private static void fillAll(SwapGo x) {
        for (int i = 0; i < 12; i++) {
            Check.due("need " + i, x.need(1), i + 1);
            Check.due("point " + i, x.point(0, 50, 50), i);
            Check.due("place " + i, x.point(1, 50, 50), i < 8 ? i : NONE);
        }
    }

    private static void clearLeavesTheRest() {
        SwapGo x = Edge.town(8, 1, 1);
        Edge.packs(x, 0, 90, 50);
        x.wish(0, 1);
        x.take(0);
        x.set(Edge.RATE, 5);
        x.run(1);
        Edge.needs(x, 2, 1);
        x.plan(2);
        x.wish(0, 0);
        x.round();
        x.point(0, 9, 9);
        x.point(1, 9, 9);
        x.places(1);
        String before = Check.snapshot(x).replace(" 2 1 1 10 in 0", " 0 0 0 10 in 0");
        Check.due("two needs", x.clear(), 2);
        Check.due("all else stays, what is kept too", Check.snapshot(x), before);
        Check.due("the plan kept", Edge.plan(x), 2, 1);
        Check.due("the round kept", Edge.stops(x), 0);
        Check.due("the bits kept", x.chosen(), 1);
    }

    private static void plan() {
        Check.sentence("Promise 17", "PRICE of the LEAST CHARGE PLAN with L LINES; it is kept.");
        SwapGo x = new SwapGo();
        Edge.prices(x, 9, 1, 5);
        Edge.needs(x, 1, 2, 3);
        Check.due("two lines", x.plan(2), 18 + 2 + 10);
        Check.due("kept", Edge.plan(x), 2, 2, 2);
        Check.due("three lines", x.plan(3), 9 + 3 + 10);
        Check.due("kept instead", Edge.plan(x), 1, 3, 2);
        Check.due("twenty lines", x.plan(20), 9 + 5);
        Check.due("kept instead", Edge.plan(x), 1, 5, 0);
        x.clear();
        Check.due("no needs, no lines", x.plan(0), 0);
        Check.due("an empty one is kept", Edge.plan(x));
        x.need(0);
        Check.due("nothing needed, no lines", x.plan(0), 0);
        Check.due("one of one hour is kept", Edge.plan(x), 0);
    }

    private static void planRefused() {
        Check.sentence("Promise 17", "-2: there is none; NONE: another L (the one that is kept stays).");
        SwapGo x = new SwapGo();
        Edge.needs(x, 3);
        Check.due("none at first", x.plan(2), -2);
        Check.due("none is kept", Edge.plan(x));
        for (int lines : Edge.outside(0, 20)) {
            Check.due("lines " + lines, x.plan(lines), NONE);
            Check.due("none is kept", Edge.plan(x));
        }
        Check.due("just enough lines", x.plan(3), 30);
        Edge.needs(x, 4, 4);
        Check.due("no line", x.plan(0), -2);
        Check.due("a line too few", x.plan(3), -2);
        Check.due("the one of one hour stays", Edge.plan(x), 3);
        for (int lines : Edge.outside(0, 20)) {
            Check.due("lines " + lines, x.plan(lines), NONE);
            Check.due("it stays", Edge.plan(x), 3);
        }
        Check.due("a plan of three", x.plan(4), 110);
        x.clear();
        Edge.needs(x, 9, 1);
        Check.due("a line too few", x.plan(8), -2);
        Check.due("the one of three hours stays", Edge.plan(x), 4, 4, 3);
        x.clear();
        Check.due("no needs: there is one again", x.plan(8), 0);
        for (int lines : Edge.outside(0, 20)) {
            Check.due("no needs, lines " + lines, x.plan(lines), NONE);
        }
    }

    private static void planned() {
        Check.sentence("Promise 18", "Charges in the i-th HOUR (0: the first) of the plan kept; NONE for none such.");
        SwapGo x = new SwapGo();
        for (int i : new int[] {0, 1, 11, -1, 12, Integer.MIN_VALUE, Integer.MAX_VALUE}) {
            Check.due("no plan kept", x.planned(i), NONE);
        }
        Edge.prices(x, 9, 1, 5);
        Edge.needs(x, 1, 2, 3);
        Check.due("needs, but no plan", x.planned(0), NONE);
        x.plan(3);
        Check.due("the first", x.planned(0), 1);
        Check.due("the second", x.planned(1), 3);
        Check.due("the last", x.planned(2), 2);
        for (int i : Edge.outside(0, 2)) {
            Check.due("hour " + i, x.planned(i), NONE);
        }
        x.need(20);
        Check.due("a need more is not in it", x.planned(3), NONE);
        x.run(30);
        Check.due("hours do not change it", Edge.plan(x), 1, 3, 2);
        x.clear();
        Check.due("no needs do not change it", Edge.plan(x), 1, 3, 2);
        x.need(4);
        x.plan(20);
        Check.due("a shorter one instead", x.planned(0), 4);
        Check.due("and nothing behind it", x.planned(1), NONE);
        x.clear();
        x.plan(20);
        Check.due("an empty one instead", x.planned(0), NONE);
        Edge.needs(x, 1, 1, 1, 1, 1, 1, 1, 1, 1, 1, 1, 1);
        x.plan(1);
        Check.due("the twelfth", x.planned(11), 1);
        for (int i : Edge.outside(0, 11)) {
            Check.due("hour " + i, x.planned(i), NONE);
        }
    }

    private static void wish() {
        Check.sentence("Promise 19", "WISH of a CABINET becomes v (0 .. 8): true.");
        SwapGo x = Edge.town(1, 0, 0);
        x.cabinet(1, 1, 8, 0, 0);
        Check.due("the most, more than it has slots", x.wish(0, 8), true);
        Check.due("it is the most", x.in(0, 4), 8);
        Check.due("of the last cabinet", x.wish(1, 3), true);
        Check.due("its own", x.in(1, 4), 3);
        Check.due("the other's own", x.in(0, 4), 8);
        Check.due("the least", x.wish(0, 0), true);
        Check.due("it is the least", x.in(0, 4), 0);
        Check.due("the same again", x.wish(0, 0), true);
        Check.due("no pack comes of it", x.count(1), 0);
    }

    private static void wishRefused() {
        Check.sentence("Promise 19", "Refused: others.");
        SwapGo x = new SwapGo();
        Check.due("no cabinets", x.wish(0, 1), false);
        x.cabinet(0, 0, 8, 0, 0);
        x.cabinet(0, 0, 8, 0, 0);
        x.wish(0, 5);
        x.wish(1, 6);
        for (int v : Edge.outside(0, 8)) {
            Check.due("wish " + v, x.wish(0, v), false);
        }
        for (int c : Edge.outside(0, 1)) {
            Check.due("cabinet " + c, x.wish(c, 1), false);
        }
        Check.due("as it was", x.in(0, 4), 5);
        Check.due("as it was", x.in(1, 4), 6);
        Check.due("a new one's wish is its own", x.in(x.cabinet(0, 0, 8, 0, 0), 4), 0);
    }

    private static void round() {
        Check.sentence("Promise 20", "The length of the SHORTEST ROUND (0 if no CABINET differs); it is kept.");
        SwapGo x = new SwapGo();
        Check.due("no cabinet", x.round(), 0);
        Check.due("an empty one", Edge.stops(x));
        Edge.stop(x, 99, 99, 1, 0);
        Check.due("one", x.round(), 396);
        Check.due("kept", Edge.stops(x), 0);
        Edge.stop(x, 98, 99, 0, 1);
        Check.due("two", x.round(), 396);
        Check.due("kept instead", Edge.stops(x), 0, 1);
        x.wish(0, 1);
        x.wish(1, 0);
        Check.due("no cabinet differs", x.round(), 0);
        Check.due("an empty one is kept", Edge.stops(x));
        x.wish(0, 0);
        Check.due("it differs again", x.round(), 396);
        x.move(0, 1);
        Check.due("one that was moved", x.round(), 394);
        Check.due("kept instead", Edge.stops(x), 1);
        x.pack(0, 90);
        x.take(0);
        Check.due("one that went out again", x.round(), 394);
        Check.due("packs are where they were", Edge.homes(x), 1, NONE);
        Check.due("the van does not move them", x.in(1, 0), 1);
    }

    private static void roundRefused() {
        Check.sentence("Promise 20", "-2: none can be (the one that is kept stays).");
        SwapGo x = new SwapGo();
        Edge.stop(x, 3, 4, 0, 1);
        Check.due("none at first", x.round(), -2);
        Check.due("none is kept", Edge.stops(x));
        Edge.stop(x, 5, 4, 1, 0);
        Check.due("one can be", x.round(), 18);
        Check.due("it is kept", Edge.stops(x), 1, 0);
        x.wish(0, 2);
        Check.due("too few", x.round(), -2);
        Check.due("it stays", Edge.stops(x), 1, 0);
        Edge.stop(x, 1, 1, 2, 1);
        Check.due("just enough", x.round(), 18);
        Check.due("another is kept", Edge.stops(x), 2, 1, 0);
        x.set(Edge.VAN, 1);
        Check.due("the van is too small", x.round(), -2);
        Check.due("it stays", Edge.stops(x), 2, 1, 0);
        x.wish(2, 2);
        x.wish(0, 0);
        x.wish(1, 1);
        Check.due("none differs", x.round(), 0);
        x.wish(0, 8);
        Check.due("far too few", x.round(), -2);
        Check.due("the empty one stays", Edge.stops(x));
    }

    private static void stop() {
        Check.sentence("Promise 21", "The i-th CABINET of the round kept; NONE for none such.");
        SwapGo x = new SwapGo();
        for (int i : new int[] {0, 1, 5, -1, 6, Integer.MIN_VALUE, Integer.MAX_VALUE}) {
            Check.due("no round kept", x.stop(i), NONE);
        }
        for (int c = 0; c < 6; c++) {
            Edge.stop(x, 60 - 10 * c, 0, c == 0 ? 0 : 1, c == 0 ? 5 : 0);
        }
        Check.due("cabinets, but no round", x.stop(0), NONE);
        Check.due("out over all, back at the end", x.round(), 120);
        int[] due = {5, 4, 3, 2, 1, 0};
        for (int i = 0; i < 6; i++) {
            Check.due("stop " + i, x.stop(i), due[i]);
        }
        for (int i : Edge.outside(0, 5)) {
            Check.due("stop " + i, x.stop(i), NONE);
        }
        x.wish(0, 0);
        x.wish(1, 1);
        Check.due("another wish does not change it", Edge.stops(x), 5, 4, 3, 2, 1, 0);
        x.round();
        Check.due("a shorter one instead", Edge.stops(x), 2, 3, 4, 5);
        for (int i : Edge.outside(0, 3)) {
            Check.due("stop " + i, x.stop(i), NONE);
        }
        for (int c = 0; c < 6; c++) {
            x.wish(c, x.in(c, 0));
        }
        x.round();
        Check.due("an empty one instead", x.stop(0), NONE);
    }

    private static void point() {
        Check.sentence("Promise 22", "A POINT (what 0) or PLACE (1) more: its number.");
        SwapGo x = new SwapGo();
        for (int i = 0; i < 8; i++) {
            Check.due("a point", x.point(0, 99, 0), i);
            Check.due("so many points", x.count(7), i + 1);
            Check.due("a place", x.point(1, 0, 99), i);
            Check.due("so many places", x.count(8), i + 1);
        }
        Check.due("points alone, to twelve", x.point(0, 0, 0), 8);
        Check.due("no place more", x.count(8), 8);
        Check.due("a point is no place, a place no point", x.places(1), 8 * 198 + 99);
        SwapGo y = new SwapGo();
        Check.due("a place first", y.point(1, 5, 5), 0);
        Check.due("no point of it", y.count(7), 0);
        Check.due("the first point", y.point(0, 5, 5), 0);
    }

    private static void pointRefused() {
        Check.sentence("Promise 22", "Refused: others, 12, 8.");
        SwapGo x = new SwapGo();
        for (int what : Edge.outside(0, 1)) {
            Check.due("what " + what, x.point(what, 5, 5), NONE);
        }
        for (int v : Edge.outside(0, 99)) {
            for (int what = 0; what < 2; what++) {
                Check.due(what + ", x " + v, x.point(what, v, 5), NONE);
                Check.due(what + ", y " + v, x.point(what, 5, v), NONE);
            }
        }
        Check.due("no point", x.count(7), 0);
        Check.due("no place", x.count(8), 0);
        for (int i = 0; i < 12; i++) {
            Check.due("twelve points", x.point(0, 5, 5), i);
        }
        Check.due("a thirteenth", x.point(0, 5, 5), NONE);
        for (int i = 0; i < 8; i++) {
            Check.due("eight places", x.point(1, 15, 5), i);
        }
        Check.due("a ninth", x.point(1, 5, 5), NONE);
        Check.due("twelve still", x.count(7), 12);
        Check.due("eight still", x.count(8), 8);
        Check.due("where they were", x.places(8), 120);
        Check.due("all of them", x.chosen(), 255);
    }

    private static void places() {
        Check.sentence("Promise 23", "The least sum of the BEST k PLACES (0 .. all); they are kept, as bits.");
        SwapGo x = Edge.town(1, 0, 0);
        for (int i = 0; i < 8; i++) {
            x.point(0, 10 * i + 10, 0);
            x.point(1, 10 * i + 10, 0);
        }
        for (int k = 0; k <= 8; k++) {
            int sum = x.places(k);
            Check.due(k + " of eight, in bits", Integer.bitCount(x.chosen()), k);
            Check.due(k + " of eight, by the bits", sumBy(x.chosen()), sum);
            Check.due(k + " of eight, least", sum, leastOf(k));
        }
        Check.due("none of them", x.places(0), 360);
        Check.due("no bits", x.chosen(), 0);
        Check.due("all of them", x.places(8), 0);
        Check.due("all bits", x.chosen(), 255);
        SwapGo y = Edge.town(1, 0, 0);
        y.point(0, 40, 2);
        Check.due("no places, none of them", y.places(0), 42);
        SwapGo z = new SwapGo();
        z.point(1, 7, 7);
        Check.due("one of one, and no point", z.places(1), 0);
        Check.due("its bit", z.chosen(), 1);
    }

    /** Riders at 10, 20 .. 80 on a line, a place at each, and a cabinet at 0. */
    private static int sumBy(int bits) {
        int sum = 0;
        for (int r = 10; r <= 80; r += 10) {
            int way = r;
            for (int i = 0; i < 8; i++) {
                if ((bits >> i & 1) != 0) {
                    way = Math.min(way, Math.abs(10 * i + 10 - r));
                }
            }
            sum += way;
        }
        return sum;
    }

    private static int leastOf(int k) {
        int least = Integer.MAX_VALUE;
        for (int bits = 0; bits < 256; bits++) {
            if (Integer.bitCount(bits) == k) {
                least = Math.min(least, sumBy(bits));
            }
        }
        return least;
    }

    private static void placesRefused() {
        Check.sentence("Promise 23", "Refused: k; no PLACE and no CABINET would be.");
        SwapGo x = new SwapGo();
        Check.due("no place, no cabinet, no point", x.places(0), NONE);
        Check.due("more than all", x.places(1), NONE);
        x.point(0, 5, 5);
        Check.due("no place, no cabinet, but a point", x.places(0), NONE);
        x.point(1, 6, 5);
        x.point(1, 7, 5);
        Check.due("no place would be, and no cabinet", x.places(0), NONE);
        Check.due("one place would be", x.places(1), 1);
        Check.due("kept", x.chosen(), 1);
        for (int k : Edge.outside(0, 2)) {
            Check.due("k " + k, x.places(k), NONE);
            Check.due("kept still", x.chosen(), 1);
        }
        Check.due("no place would be", x.places(0), NONE);
        Check.due("kept still", x.chosen(), 1);
        x.cabinet(5, 7, 1, 0, 0);
        Check.due("a cabinet would be", x.places(0), 2);
        Check.due("no bits", x.chosen(), 0);
        x.clear();
        Check.due("a cabinet, no points", x.places(0), 0);
        for (int k : Edge.outside(0, 0)) {
            Check.due("no places, k " + k, x.places(k), NONE);
        }
    }

    private static void chosen() {
        Check.sentence("Promise 24", "The bits kept by the latest places() (0 at first).");
        SwapGo x = new SwapGo();
        Check.due("at first", x.chosen(), 0);
        x.places(0);
        Check.due("behind a refused one", x.chosen(), 0);
        for (int i = 0; i < 8; i++) {
            x.point(1, 10 * i, 0);
        }
        x.point(0, 70, 0);
        Check.due("places, but none asked for", x.chosen(), 0);
        x.places(1);
        Check.due("the last place", x.chosen(), 128);
        Check.due("asking does not change it", x.chosen(), 128);
        x.places(2);
        Check.due("the latest", x.chosen(), 129);
        x.places(9);
        Check.due("refused: the latest that was kept", x.chosen(), 129);
        x.point(0, 30, 0);
        x.cabinet(1, 1, 1, 0, 0);
        Check.due("a point and a cabinet do not change it", x.chosen(), 129);
        x.clear();
        Check.due("nor does clear", x.chosen(), 129);
        x.places(0);
        Check.due("none of none", x.chosen(), 0);
    }
}

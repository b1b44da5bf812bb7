/** The first of the terms: cabinets, packs, prices and the hour, one test for each sentence. */
final class Term1Edges {
    private static final int NONE = SwapGo.NONE;

    private Term1Edges() {
    }

    static void ask() {
        cabinets();
        distance();
        packs();
        ready();
        prices();
        capAndRate();
        hourByDay();
    }

    private static void cabinets() {
        Check.sentence("Terms", "CABINETS 0 .. (at most 6) at x, y (0 .. 99), each of SLOTS 1 .. 8 and LINES 0 .. 8"
                + " (how many packs it can charge at once), and NEED 0 .. 8.");
        int[] least = {0, 0, 1, 0, 0};
        int[] most = {99, 99, 8, 8, 8};
        for (int i = 0; i < 5; i++) {
            for (int v : Edge.outside(least[i], most[i])) {
                Check.due("number " + i + " is " + v, cabinetWith(new SwapGo(), i, v), NONE);
            }
            Check.due("number " + i + " is least", cabinetWith(new SwapGo(), i, least[i]), 0);
            Check.due("number " + i + " is most", cabinetWith(new SwapGo(), i, most[i]), 0);
        }
        SwapGo x = new SwapGo();
        for (int c = 0; c < 6; c++) {
            Check.due("its number", x.cabinet(0, 0, 1, 0, 0), c);
        }
        Check.due("a seventh", x.cabinet(0, 0, 1, 0, 0), NONE);
        slots();
        lines();
        need();
    }

    private static int cabinetWith(SwapGo x, int i, int v) {
        int[] all = {50, 50, 4, 4, 4};
        all[i] = v;
        return x.cabinet(all[0], all[1], all[2], all[3], all[4]);
    }

    private static void slots() {
        for (int slots = 1; slots <= 8; slots++) {
            SwapGo x = Edge.town(slots, 0, 0);
            for (int p = 0; p < slots; p++) {
                Check.due("slot " + p + " of " + slots, x.pack(0, 50), p);
            }
            Check.due("one more than " + slots + " slots", x.pack(0, 50), NONE);
        }
    }

    private static void lines() {
        for (int lines = 0; lines <= 8; lines++) {
            SwapGo x = Edge.town(8, lines, 0);
            Edge.packs(x, 0, 10, 10, 10, 10, 10, 10, 10, 10);
            x.run(1);
            for (int p = 0; p < 8; p++) {
                Check.due(lines + " lines, charge of " + p, Check.of(x, p, 0), p < lines ? 35 : 10);
            }
        }
    }

    private static void need() {
        for (int need = 0; need <= 8; need++) {
            SwapGo x = Edge.town(8, 8, need);
            Edge.packs(x, 0, 70, 70, 70, 70, 70, 70, 70, 70);
            x.set(Edge.CAP, 0);
            x.run(1);
            Check.due("ready with a need of " + need, x.in(0, 1), need);
        }
    }

    private static void distance() {
        Check.sentence("Terms", "DISTANCE of two points: the sizes of both differences together.");
        int[][] pairs = {{0, 0, 0, 0, 0}, {0, 0, 99, 99, 198}, {99, 99, 0, 0, 198}, {99, 0, 0, 99, 198},
            {0, 99, 99, 0, 198}, {30, 5, 12, 5, 18}, {12, 5, 30, 5, 18}, {7, 3, 7, 50, 47}, {7, 50, 7, 3, 47},
            {20, 30, 23, 34, 7}, {23, 30, 20, 34, 7}, {64, 64, 64, 64, 0}};
        for (int[] pair : pairs) {
            String name = pair[0] + ", " + pair[1] + " and " + pair[2] + ", " + pair[3];
            SwapGo x = new SwapGo();
            x.point(0, pair[0], pair[1]);
            x.point(1, pair[2], pair[3]);
            Check.due("a point and a place: " + name, x.places(1), pair[4]);
            x.cabinet(pair[2], pair[3], 8, 0, 0);
            Check.due("a point and a cabinet: " + name, x.places(0), pair[4]);
            Edge.stop(x, pair[0], pair[1], 1, 0);
            x.wish(0, 1);
            int home = pair[0] + pair[1] + pair[2] + pair[3];
            Check.due("two cabinets: " + name, x.round(), home + pair[4]);
        }
    }

    private static void packs() {
        Check.sentence("Terms", "PACKS 0 .. (at most 30): a CHARGE 0 .. 100, an AGE (0 at first), SICK or not;"
                + " each is in a CABINET, or OUT (with a rider).");
        SwapGo x = new SwapGo();
        for (int c = 0; c < 6; c++) {
            x.cabinet(0, 0, 8, 0, 0);
        }
        for (int charge : Edge.outside(0, 100)) {
            Check.due("charge " + charge, x.pack(0, charge), NONE);
        }
        for (int p = 0; p < 30; p++) {
            Check.due("its number", x.pack(p / 6, p == 0 ? 0 : 100), p);
            Check.due("its charge", Check.of(x, p, 0), p == 0 ? 0 : 100);
            Check.due("its age at first", Check.of(x, p, 1), 0);
            Check.due("it is in a cabinet", Check.of(x, p, 2), p / 6);
        }
        Check.due("none is sick at first", x.count(4), 0);
        Check.due("none is out at first", x.count(3), 0);
        Check.due("a thirty-first", x.pack(5, 50), NONE);
        Check.due("one goes out", x.take(0), 1);
        Check.due("it is in no cabinet", Check.of(x, 1, 2), NONE);
        Check.due("it is not in the one it was in", x.in(0, 0), 5);
        Check.due("one that is out counts among thirty", x.pack(5, 50), NONE);
        Check.due("it comes into another", x.bring(5, 1, 50), 1);
        Check.due("it is there alone", x.in(0, 0), 5);
    }

    private static void ready() {
        Check.sentence("Terms", "READY: in a CABINET, not SICK, AGE below LIFE (1 .. 100000; at first 2000),"
                + " CHARGE at least FULL (1 .. 100; at first 80).");
        range(Edge.LIFE);
        range(Edge.FULL);
        readyByCharge();
        readyByAge();
        readyAtFirstLife();
        SwapGo x = Edge.town(2, 0, 0);
        Edge.packs(x, 0, 100, 100);
        x.sick(0, true);
        Check.due("a sick one", Edge.readyOnes(x), 0, 1);
        x.sick(0, false);
        Check.due("one that is well again", Edge.readyOnes(x), 1, 1);
        x.take(0);
        Check.due("one that is out", Edge.readyOnes(x), 0, 1);
        x.bring(0, 0, 80);
        Check.due("one that came back", Edge.readyOnes(x), 1, 1);
    }

    static void range(int what) {
        SwapGo x = new SwapGo();
        for (int v : Edge.outside(Edge.LEAST_SETTING[what], Edge.MOST_SETTING[what])) {
            Check.due("setting " + what + " to " + v, x.set(what, v), NONE);
        }
        Check.due("to the least, from the first", x.set(what, Edge.LEAST_SETTING[what]), Edge.FIRST_SETTING[what]);
        Check.due("to the most, from the least", x.set(what, Edge.MOST_SETTING[what]), Edge.LEAST_SETTING[what]);
        Check.due("from the most", x.set(what, Edge.LEAST_SETTING[what]), Edge.MOST_SETTING[what]);
    }

    private static void readyByCharge() {
        SwapGo x = Edge.town(8, 0, 0);
        Edge.packs(x, 0, 0, 1, 79, 80, 81, 99, 100);
        Check.due("FULL at first", Edge.readyOnes(x), 0, 0, 0, 1, 1, 1, 1);
        x.set(Edge.FULL, 1);
        Check.due("FULL 1", Edge.readyOnes(x), 0, 1, 1, 1, 1, 1, 1);
        x.set(Edge.FULL, 100);
        Check.due("FULL 100", Edge.readyOnes(x), 0, 0, 0, 0, 0, 0, 1);
        x.set(Edge.FULL, 81);
        Check.due("FULL 81", Edge.readyOnes(x), 0, 0, 0, 0, 1, 1, 1);
    }

    private static void readyByAge() {
        SwapGo x = Edge.workshop(8, 0, 0);
        for (int age : new int[] {0, 1, 49, 50, 51, 100}) {
            x.bring(1, Edge.aged(x, age), 100);
        }
        Check.due("LIFE at first", Edge.readyOnes(x), 1, 1, 1, 1, 1, 1);
        x.set(Edge.LIFE, 50);
        Check.due("LIFE 50", Edge.readyOnes(x), 1, 1, 1, 0, 0, 0);
        x.set(Edge.LIFE, 1);
        Check.due("LIFE 1", Edge.readyOnes(x), 1, 0, 0, 0, 0, 0);
        x.set(Edge.LIFE, 100000);
        Check.due("LIFE 100000", Edge.readyOnes(x), 1, 1, 1, 1, 1, 1);
    }

    private static void readyAtFirstLife() {
        SwapGo x = Edge.town(1, 1, 0);
        x.set(Edge.RATE, 100);
        x.pack(0, 1);
        for (int charged = 0; charged < 20; charged++) {
            x.run(1);
            x.take(0);
            x.bring(0, 0, 0);
        }
        x.set(Edge.FULL, 1);
        x.set(Edge.RATE, 1);
        Check.due("its age", Check.of(x, 0, 1), 1999);
        x.run(1);
        Check.due("its age then", Check.of(x, 0, 1), 2000);
        Check.due("its charge then", Check.of(x, 0, 0), 1);
        Check.due("as old as LIFE is at first", Check.of(x, 0, 3), 0);
        x.run(1);
        Check.due("it is not charged any more", Check.of(x, 0, 0), 1);
        x.set(Edge.LIFE, 2001);
        Check.due("LIFE above its age", Check.of(x, 0, 3), 1);
    }

    private static void prices() {
        Check.sentence("Terms", "PRICES of the 24 HOURS of a day (0 .. 1000; at first 10).");
        SwapGo x = new SwapGo();
        SwapGo y = new SwapGo();
        for (int h = 0; h < 24; h++) {
            Check.due("at first", x.count(9), 10);
            for (int v : Edge.outside(0, 1000)) {
                Check.due("price " + v, x.price(h, v), false);
            }
            Check.due("still", x.count(9), 10);
            Check.due("the most", x.price(h, 1000), true);
            Check.due("it is the most", x.count(9), 1000);
            Check.due("the least", x.price(h, 0), true);
            Check.due("it is the least", x.count(9), 0);
            x.run(1);
            Check.due("each hour's own", y.price(h, 100 + h), true);
        }
        for (int h = 0; h < 24; h++) {
            Check.due("each hour's own", y.count(9), 100 + h);
            y.run(1);
        }
    }

    private static void capAndRate() {
        Check.sentence("Terms", "CAP (0 .. 1000; at first 1000), RATE (1 .. 100; at first 25).");
        range(Edge.CAP);
        range(Edge.RATE);
        int[][] dear = {{1000, 1000, 0}, {1000, 999, 1}, {0, 0, 0}, {1, 0, 1}, {500, 500, 0}, {501, 500, 1}};
        for (int[] row : dear) {
            SwapGo x = Edge.town(1, 1, 0);
            x.pack(0, 50);
            x.price(0, row[0]);
            x.set(Edge.CAP, row[1]);
            x.run(1);
            Check.due("price " + row[0] + ", CAP " + row[1], Edge.charges(x), row[2] == 1 ? 50 : 75);
        }
        SwapGo first = Edge.town(1, 1, 0);
        first.pack(0, 0);
        first.price(0, 1000);
        first.run(1);
        Check.due("the most is not above CAP at first, by RATE at first", Edge.charges(first), 25);
        first.set(Edge.RATE, 1);
        first.run(1);
        Check.due("RATE 1", Edge.charges(first), 26);
        SwapGo x = Edge.town(1, 1, 0);
        x.pack(0, 0);
        x.set(Edge.RATE, 100);
        x.run(1);
        Check.due("RATE 100", Edge.charges(x), 100);
    }

    private static void hourByDay() {
        Check.sentence("Terms", "HOUR: 0 at first; its PRICE is that of HOUR by 24.");
        SwapGo x = new SwapGo();
        for (int h = 0; h < 24; h++) {
            x.price(h, 500 + h);
        }
        Check.due("the hour at first", x.count(2), 0);
        for (int hour : new int[] {0, 1, 22, 23, 24, 25, 47, 48, 49, 9983, 9984, 9999, 10000}) {
            Edge.runTo(x, hour);
            Check.due("the hour", x.count(2), hour);
            Check.due("the price of hour " + hour, x.count(9), 500 + hour % 24);
        }
        SwapGo y = Edge.town(1, 1, 0);
        Edge.prices(y, 7, 900);
        y.set(Edge.RATE, 1);
        Edge.runTo(y, 23);
        y.pack(0, 0);
        y.run(1);
        Check.due("billed by the last hour of the day", y.in(0, 3), 10);
        y.run(1);
        Check.due("billed by the first hour of the next", y.in(0, 3), 17);
        y.run(1);
        Check.due("and by its second", y.in(0, 3), 917);
    }
}

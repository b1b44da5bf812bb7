/** Promises 1 to 6 and 12 to 14, one test for each sentence. */
final class TownEdges {
    private static final int NONE = SwapGo.NONE;

    private TownEdges() {
    }

    static void ask() {
        newObject();
        cabinet();
        cabinetRefused();
        pack();
        packRefused();
        set();
        setRefused();
        price();
        priceRefused();
        sick();
        count();
        countOfNothing();
        of();
        ofNothing();
        in();
        inNothing();
    }

    private static void newObject() {
        Check.sentence("Promise 1", "As told; no CABINETS, PACKS, NEEDS, POINTS, PLACES.");
        SwapGo x = new SwapGo();
        int[] due = {0, 0, 0, 0, 0, 0, 0, 0, 0, 10};
        for (int what = 0; what < 10; what++) {
            Check.due("count " + what, x.count(what), due[what]);
        }
        Check.due("no cabinet 0", x.in(0, 0), NONE);
        Check.due("no pack 0", Check.of(x, 0, 0), Check.THROWN);
        Check.due("no plan kept", Edge.plan(x));
        Check.due("no round kept", Edge.stops(x));
        Check.due("no bits kept", x.chosen(), 0);
        for (int what = 0; what < 5; what++) {
            Check.due("setting " + what, x.set(what, 1), Edge.FIRST_SETTING[what]);
        }
        Check.due("no needs to clear", x.clear(), 0);
        Check.due("no cabinet to go to", x.round(), 0);
        SwapGo used = Edge.town(8, 8, 8);
        used.pack(0, 100);
        used.set(Edge.LIFE, 5);
        used.price(0, 99);
        Check.due("what another object has is its own", new SwapGo().count(1), 0);
        Check.due("so are its prices", new SwapGo().count(9), 10);
        Check.due("so are its settings", new SwapGo().set(Edge.LIFE, 1), 2000);
    }

    private static void cabinet() {
        Check.sentence("Promise 2", "A CABINET, its WISH 0: its number.");
        SwapGo x = new SwapGo();
        for (int c = 0; c < 6; c++) {
            Check.due("its number", x.cabinet(c, 0, 8, 8, 8), c);
            Check.due("so many", x.count(0), c + 1);
            Check.due("its packs", x.in(c, 0), 0);
            Check.due("its ready ones", x.in(c, 1), 0);
            Check.due("the one it would give", x.in(c, 2), NONE);
            Check.due("its bill", x.in(c, 3), 0);
            Check.due("its wish", x.in(c, 4), 0);
            x.wish(c, 5);
        }
        Check.due("a wish of another stays", x.in(0, 4), 5);
    }

    private static void cabinetRefused() {
        Check.sentence("Promise 2", "Refused: others, 6.");
        SwapGo x = new SwapGo();
        for (int v : Edge.outside(0, 99)) {
            Check.due("x " + v, x.cabinet(v, 0, 1, 0, 0), NONE);
            Check.due("y " + v, x.cabinet(0, v, 1, 0, 0), NONE);
        }
        for (int v : Edge.outside(1, 8)) {
            Check.due("slots " + v, x.cabinet(0, 0, v, 0, 0), NONE);
        }
        for (int v : Edge.outside(0, 8)) {
            Check.due("lines " + v, x.cabinet(0, 0, 1, v, 0), NONE);
            Check.due("need " + v, x.cabinet(0, 0, 1, 0, v), NONE);
        }
        Check.due("none of them stands", x.count(0), 0);
        for (int c = 0; c < 6; c++) {
            Check.due("a right one has the next number", x.cabinet(99, 99, 8, 8, 8), c);
        }
        Check.due("six stand already", x.cabinet(0, 0, 1, 0, 0), NONE);
        Check.due("six stand still", x.count(0), 6);
        Check.due("no seventh is known", x.in(6, 0), NONE);
    }

    private static void pack() {
        Check.sentence("Promise 3", "A PACK in a CABINET: its number.");
        SwapGo x = Edge.town(2, 0, 0);
        x.cabinet(0, 0, 2, 0, 0);
        Check.due("the first", x.pack(1, 0), 0);
        Check.due("the second", x.pack(0, 100), 1);
        Check.due("the third", x.pack(1, 80), 2);
        Check.due("their cabinets", Edge.homes(x), 1, 0, 1);
        Check.due("their charges", Edge.charges(x), 0, 100, 80);
        Check.due("their ages", Edge.ages(x), 0, 0, 0);
        Check.due("ready ones", Edge.readyOnes(x), 0, 1, 1);
        Check.due("packs in 1", x.in(1, 0), 2);
        Check.due("so many", x.count(1), 3);
    }

    private static void packRefused() {
        Check.sentence("Promise 3", "Refused: no such CABINET, no SLOT left, CHARGE, 30.");
        SwapGo x = new SwapGo();
        Check.due("no cabinet yet", x.pack(0, 50), NONE);
        x.cabinet(0, 0, 1, 0, 0);
        for (int c : Edge.outside(0, 0)) {
            Check.due("cabinet " + c, x.pack(c, 50), NONE);
        }
        for (int charge : Edge.outside(0, 100)) {
            Check.due("charge " + charge, x.pack(0, charge), NONE);
        }
        Check.due("the one slot is left", x.pack(0, 90), 0);
        Check.due("no slot is left", x.pack(0, 90), NONE);
        x.sick(0, true);
        Check.due("a sick one has its slot", x.pack(0, 90), NONE);
        x.sick(0, false);
        x.take(0);
        Check.due("one that goes out leaves its slot", x.pack(0, 90), 1);
        Check.due("which is not left then", x.pack(0, 90), NONE);
        for (int c = 1; c < 6; c++) {
            x.cabinet(0, 0, 8, 0, 0);
        }
        for (int p = 2; p < 30; p++) {
            Check.due("up to thirty", x.pack(1 + p % 5, 90), p);
        }
        Check.due("slots are left", x.in(5, 0) < 8, true);
        Check.due("thirty there are", x.pack(5, 90), NONE);
        Check.due("still thirty", x.count(1), 30);
        Check.due("none is known as 30", Check.of(x, 30, 0), Check.THROWN);
        Check.due("none came in", x.in(1, 0) + x.in(2, 0) + x.in(3, 0) + x.in(4, 0) + x.in(5, 0), 28);
    }

    private static void set() {
        Check.sentence("Promise 4", "LIFE (what 0), FULL (1), CAP (2), RATE (3), VAN (4) becomes v: what it was.");
        SwapGo x = new SwapGo();
        for (int what = 0; what < 5; what++) {
            int least = Edge.LEAST_SETTING[what];
            int most = Edge.MOST_SETTING[what];
            Check.due("to the most of " + what, x.set(what, most), Edge.FIRST_SETTING[what]);
            Check.due("to the least of " + what, x.set(what, least), most);
            Check.due("to 20, " + what, x.set(what, 20 + what), least);
        }
        for (int what = 0; what < 5; what++) {
            Check.due("each its own, " + what, x.set(what, 20 + what), 20 + what);
        }
        SwapGo y = Edge.town(4, 4, 1);
        Edge.packs(y, 0, 50, 40);
        y.set(3, 7);
        y.run(1);
        Check.due("3 is RATE", Edge.charges(y), 57, 47);
        y.set(1, 57);
        Check.due("1 is FULL", Edge.readyOnes(y), 1, 0);
        y.set(2, 9);
        y.run(1);
        Check.due("2 is CAP", Edge.charges(y), 57, 47);
        y.set(0, 7);
        Check.due("0 is LIFE", Edge.readyOnes(y), 0, 0);
        y.set(4, 1);
        Check.due("4 is VAN", y.round(), -2);
        y.set(4, 2);
        Check.due("4 is VAN, two", y.round(), 0);
    }

    private static void setRefused() {
        Check.sentence("Promise 4", "Refused: others.");
        SwapGo x = new SwapGo();
        for (int what : Edge.outside(0, 4)) {
            Check.due("what " + what, x.set(what, 20), NONE);
        }
        for (int what = 0; what < 5; what++) {
            for (int v : Edge.outside(Edge.LEAST_SETTING[what], Edge.MOST_SETTING[what])) {
                Check.due(what + " to " + v, x.set(what, v), NONE);
            }
        }
        for (int what = 0; what < 5; what++) {
            Check.due("as it was at first, " + what, x.set(what, 20), Edge.FIRST_SETTING[what]);
        }
    }

    private static void price() {
        Check.sentence("Promise 5", "PRICE of an hour of the day (0 .. 23): true.");
        for (int hour : new int[] {0, 1, 12, 22, 23}) {
            SwapGo x = new SwapGo();
            Check.due("hour " + hour, x.price(hour, 321), true);
            for (int h = 0; h < 48; h++) {
                Check.due("price of hour " + h, x.count(9), h % 24 == hour ? 321 : 10);
                x.run(1);
            }
        }
        SwapGo x = new SwapGo();
        Check.due("0", x.price(0, 0), true);
        Check.due("is 0", x.count(9), 0);
        Check.due("1000", x.price(0, 1000), true);
        Check.due("is 1000", x.count(9), 1000);
        Check.due("the same again", x.price(0, 1000), true);
    }

    private static void priceRefused() {
        Check.sentence("Promise 5", "Refused: others.");
        SwapGo x = new SwapGo();
        for (int hour : Edge.outside(0, 23)) {
            Check.due("hour " + hour, x.price(hour, 5), false);
        }
        for (int v : Edge.outside(0, 1000)) {
            Check.due("price " + v, x.price(0, v), false);
            Check.due("price " + v + " of the last hour", x.price(23, v), false);
        }
        for (int h = 0; h < 24; h++) {
            Check.due("price of hour " + h, x.count(9), 10);
            x.run(1);
        }
        Check.due("hour 24 is no hour of the day, though it is now", x.price(24, 5), false);
    }

    private static void sick() {
        Check.sentence("Promise 6", "A PACK is SICK, or not: true; false for none such.");
        SwapGo x = new SwapGo();
        Check.due("no packs", x.sick(0, true), false);
        x.cabinet(0, 0, 4, 4, 0);
        Edge.packs(x, 0, 100, 90);
        for (int p : Edge.outside(0, 1)) {
            Check.due("pack " + p, x.sick(p, true), false);
            Check.due("pack " + p + ", well", x.sick(p, false), false);
        }
        Check.due("none is", x.count(4), 0);
        Check.due("the last", x.sick(1, true), true);
        Check.due("it alone is", x.count(4), 1);
        Check.due("it is not ready", Edge.readyOnes(x), 1, 0);
        Check.due("sick again", x.sick(1, true), true);
        Check.due("it counts once", x.count(4), 1);
        x.run(1);
        Check.due("it is not charged", Edge.charges(x), 100, 90);
        Check.due("well", x.sick(1, false), true);
        Check.due("none is", x.count(4), 0);
        Check.due("it is ready", Edge.readyOnes(x), 1, 1);
        Check.due("well again", x.sick(1, false), true);
        Check.due("one goes out", x.take(0), 0);
        Check.due("one that is out", x.sick(0, true), true);
        Check.due("it counts", x.count(4), 1);
        x.bring(0, 0, 95);
        Check.due("it is sick still", Edge.readyOnes(x), 0, 1);
    }

    private static void count() {
        Check.sentence("Promise 12", "What 0: CABINETS, 1: PACKS, 2: HOUR, 3: PACKS that are OUT, 4: SICK,"
                + " 5: with AGE of LIFE or more, 6: NEEDS, 7: POINTS, 8: PLACES, 9: PRICE of the HOUR.");
        SwapGo x = Edge.workshop(8, 0, 0);
        for (int age : new int[] {49, 50, 51, 52, 0}) {
            Edge.aged(x, age);
        }
        x.cabinet(0, 0, 1, 0, 0);
        x.bring(1, 0, 90);
        x.bring(1, 1, 90);
        x.sick(1, true);
        x.sick(2, true);
        x.set(Edge.LIFE, 50);
        x.price(5, 77);
        Edge.needs(x, 1, 2, 3, 4);
        for (int i = 0; i < 6; i++) {
            x.point(0, 1, 1);
        }
        for (int i = 0; i < 7; i++) {
            x.point(1, 1, 1);
        }
        int[] due = {3, 5, 5, 3, 2, 3, 4, 6, 7, 77};
        for (int what = 0; what < 10; what++) {
            Check.due("count " + what, x.count(what), due[what]);
        }
        x.set(Edge.LIFE, 53);
        Check.due("none has the age of LIFE", x.count(5), 0);
        x.set(Edge.LIFE, 52);
        Check.due("one has just the age of LIFE, and is out", x.count(5), 1);
        x.set(Edge.LIFE, 1);
        Check.due("all but a new one", x.count(5), 4);
        x.clear();
        Check.due("no needs", x.count(6), 0);
        Check.due("no points", x.count(7), 0);
        Check.due("no places", x.count(8), 0);
    }

    private static void countOfNothing() {
        Check.sentence("Promise 12", "NONE for another what.");
        for (int what : Edge.outside(0, 9)) {
            Check.due("what " + what, Edge.town(1, 1, 1).count(what), NONE);
        }
    }

    private static void of() {
        Check.sentence("Promise 13", "Of a PACK, what 0: CHARGE, 1: AGE, 2: CABINET (NONE if OUT), 3: READY (1, 0).");
        SwapGo x = Edge.workshop(8, 0, 0);
        Edge.aged(x, 31);
        Edge.aged(x, 7);
        Check.due("out, its charge", Check.of(x, 0, 0), 100);
        Check.due("out, its age", Check.of(x, 0, 1), 31);
        Check.due("out, its cabinet", Check.of(x, 0, 2), NONE);
        Check.due("out, is it ready", Check.of(x, 0, 3), 0);
        x.bring(1, 0, 80);
        x.bring(1, 1, 79);
        Check.due("charges", Edge.charges(x), 80, 79);
        Check.due("ages", Edge.ages(x), 31, 7);
        Check.due("cabinets", Edge.homes(x), 1, 1);
        Check.due("ready", Edge.readyOnes(x), 1, 0);
        x.move(1, 0);
        Check.due("another cabinet", Edge.homes(x), 1, 0);
    }

    private static void ofNothing() {
        Check.sentence("Promise 13", "NoSuchElementException: none such, another what.");
        SwapGo x = new SwapGo();
        for (int what = 0; what < 4; what++) {
            Check.due("no packs", Check.of(x, 0, what), Check.THROWN);
        }
        x.cabinet(0, 0, 4, 0, 0);
        Edge.packs(x, 0, 90, 80);
        for (int what = 0; what < 4; what++) {
            for (int p : Edge.outside(0, 1)) {
                Check.due("pack " + p, Check.of(x, p, what), Check.THROWN);
            }
            Check.due("the last there is", Check.of(x, 1, what) != Check.THROWN, true);
        }
        for (int what : Edge.outside(0, 3)) {
            Check.due("what " + what, Check.of(x, 0, what), Check.THROWN);
            Check.due("neither", Check.of(x, 2, what), Check.THROWN);
        }
    }

    private static void in() {
        Check.sentence("Promise 14", "Of a CABINET, what 0: PACKS in it, 1: READY ones, 2: the one that would be GIVEN"
                + " (NONE), 3: BILL, 4: WISH.");
        SwapGo x = Edge.town(8, 1, 0);
        x.cabinet(0, 0, 8, 0, 0);
        Edge.packs(x, 1, 80, 100, 79, 90);
        Edge.packs(x, 0, 20);
        x.wish(0, 7);
        x.wish(1, 8);
        x.run(2);
        int[][] due = {{1, 0, NONE, 20, 7}, {4, 3, 1, 0, 8}};
        for (int c = 0; c < 2; c++) {
            for (int what = 0; what < 5; what++) {
                Check.due("in " + c + ", " + what, x.in(c, what), due[c][what]);
            }
        }
        Check.due("asking does not give it", x.in(1, 2), 1);
        x.take(1);
        Check.due("one fewer", x.in(1, 0), 3);
        Check.due("one fewer is ready", x.in(1, 1), 2);
        Check.due("the next", x.in(1, 2), 3);
        x.set(Edge.FULL, 91);
        Check.due("none is ready", x.in(1, 1), 0);
        Check.due("none would be given", x.in(1, 2), NONE);
    }

    private static void inNothing() {
        Check.sentence("Promise 14", "NONE: none such, another what.");
        SwapGo x = new SwapGo();
        for (int what = 0; what < 5; what++) {
            Check.due("no cabinets", x.in(0, what), NONE);
        }
        x.cabinet(0, 0, 4, 0, 0);
        x.cabinet(0, 0, 4, 0, 0);
        x.pack(1, 90);
        x.take(1);
        for (int what = 0; what < 5; what++) {
            for (int c : Edge.outside(0, 1)) {
                Check.due("cabinet " + c, x.in(c, what), NONE);
            }
        }
        for (int what : Edge.outside(0, 4)) {
            Check.due("what " + what, x.in(1, what), NONE);
        }
    }
}

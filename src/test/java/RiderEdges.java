/** Promises 7 to 11, one test for each sentence. */
final class RiderEdges {
    private static final int NONE = SwapGo.NONE;

    private RiderEdges() {
    }

    static void ask() {
        take();
        takeRefused();
        swap();
        swapRefused();
        bring();
        bringRefused();
        move();
        moveRefused();
        run();
        runRefused();
    }

    private static void take() {
        Check.sentence("Promise 7", "A new rider gets the PACK that is GIVEN of a CABINET, which is OUT then:"
                + " its number.");
        SwapGo x = Edge.town(8, 0, 0);
        x.cabinet(0, 0, 8, 0, 0);
        Edge.packs(x, 0, 80, 95, 90);
        Edge.packs(x, 1, 100);
        Check.due("of its own cabinet", x.take(0), 1);
        Check.due("it is out", Edge.homes(x), 0, NONE, 0, 1);
        Check.due("with its charge", Edge.charges(x), 80, 95, 90, 100);
        Check.due("one is out", x.count(3), 1);
        Check.due("two are in", x.in(0, 0), 2);
        Check.due("the next", x.take(0), 2);
        Check.due("of the other", x.take(1), 3);
        Check.due("the last", x.take(0), 0);
        Check.due("all are out", x.count(3), 4);
        Check.due("none is in", x.in(0, 0), 0);
    }

    private static void takeRefused() {
        Check.sentence("Promise 7", "Refused: no such CABINET, none is READY.");
        SwapGo x = new SwapGo();
        Check.due("no cabinets", x.take(0), NONE);
        x.cabinet(0, 0, 8, 0, 0);
        x.cabinet(0, 0, 8, 8, 0);
        Check.due("an empty cabinet", x.take(0), NONE);
        Edge.packs(x, 0, 79, 100);
        Edge.packs(x, 1, 75);
        x.sick(1, true);
        for (int c : Edge.outside(0, 1)) {
            Check.due("cabinet " + c, x.take(c), NONE);
        }
        Check.due("one with too little, one sick", x.take(0), NONE);
        x.run(1);
        x.set(Edge.LIFE, 25);
        Check.due("one that is old", x.take(1), NONE);
        Check.due("none is out", x.count(3), 0);
        Check.due("all are where they were", Edge.homes(x), 0, 0, 1);
        x.set(Edge.LIFE, 26);
        Check.due("it is not old any more", x.take(1), 2);
        Check.due("one that is out is not there to take", x.take(1), NONE);
    }

    private static void swap() {
        Check.sentence("Promise 8", "A rider's PACK, with a CHARGE (at most what it had), comes into a CABINET,"
                + " and the one GIVEN (of those there ahead of it) is OUT: its number.");
        SwapGo x = Edge.town(2, 0, 0);
        x.cabinet(0, 0, 1, 0, 0);
        Edge.packs(x, 0, 100, 85);
        Edge.packs(x, 1, 80);
        Check.due("a rider has it", x.take(0), 0);
        Check.due("all that it had, and more than the one given", x.swap(0, 0, 100), 1);
        Check.due("the other is out", Edge.homes(x), 0, NONE, 1);
        Check.due("into a cabinet with no slot left", x.swap(1, 1, 85), 2);
        Check.due("in its slot", Edge.homes(x), 0, 1, NONE);
        Check.due("it has one still", x.in(1, 0), 1);
        Check.due("with nothing left", x.swap(1, 2, 0), 1);
        Check.due("its charge", Edge.charges(x), 100, 85, 0);
        Check.due("with a step less than it had", x.swap(0, 1, 84), 0);
        Check.due("their charges", Edge.charges(x), 100, 84, 0);
        Check.due("their cabinets", Edge.homes(x), NONE, 0, 1);
        Check.due("one is out as before", x.count(3), 1);
        sickOrOldSwap();
    }

    private static void sickOrOldSwap() {
        SwapGo x = Edge.workshop(8, 0, 0);
        int pack = Edge.aged(x, 60);
        x.pack(1, 90);
        x.sick(pack, true);
        x.set(Edge.LIFE, 60);
        Check.due("a rider's own may be sick and old", x.swap(1, pack, 100), 1);
        Check.due("it keeps its age", Edge.ages(x), 60, 0);
        Check.due("it is sick still", x.count(4), 1);
    }

    private static void swapRefused() {
        Check.sentence("Promise 8", "Refused: no such PACK, CABINET, it is not OUT, another CHARGE; none is READY.");
        SwapGo x = Edge.town(8, 0, 0);
        x.cabinet(0, 0, 8, 0, 0);
        x.cabinet(0, 0, 8, 0, 0);
        Edge.packs(x, 0, 90, 85, 84);
        Edge.packs(x, 1, 79);
        x.take(0);
        String before = Check.snapshot(x);
        for (int p : Edge.outside(0, 3)) {
            Check.due("pack " + p, x.swap(0, p, 0), NONE);
        }
        for (int c : Edge.outside(0, 2)) {
            Check.due("cabinet " + c, x.swap(c, 0, 50), NONE);
        }
        Check.due("in this cabinet, not out", x.swap(0, 1, 50), NONE);
        Check.due("in another cabinet, not out", x.swap(0, 3, 50), NONE);
        for (int charge : Edge.outside(0, 90)) {
            Check.due("charge " + charge, x.swap(0, 0, charge), NONE);
        }
        Check.due("charge 100, more than it had", x.swap(0, 0, 100), NONE);
        Check.due("none is ready", x.swap(1, 0, 50), NONE);
        Check.due("none is there", x.swap(2, 0, 90), NONE);
        Check.due("none of that changed a thing", Check.snapshot(x), before);
        x.sick(1, true);
        x.sick(2, true);
        Check.due("all are sick", x.swap(0, 0, 90), NONE);
        Check.due("it is out still, with what it had", Edge.charges(x), 90, 85, 84, 79);
        x.sick(2, false);
        Check.due("one is well", x.swap(0, 0, 90), 2);
    }

    private static void bring() {
        Check.sentence("Promise 9", "A rider's PACK comes into a CABINET, with a CHARGE: how many are there then.");
        SwapGo x = Edge.town(8, 0, 0);
        x.cabinet(0, 0, 3, 0, 0);
        Edge.packs(x, 0, 100, 95, 90);
        for (int p = 0; p < 3; p++) {
            x.take(0);
        }
        Check.due("the first, with all that it had", x.bring(1, 0, 100), 1);
        Check.due("the second, with nothing", x.bring(1, 1, 0), 2);
        Check.due("the third, into the last slot", x.bring(1, 2, 89), 3);
        Check.due("their cabinets", Edge.homes(x), 1, 1, 1);
        Check.due("their charges", Edge.charges(x), 100, 0, 89);
        Check.due("none is out", x.count(3), 0);
        Check.due("one goes out again", x.take(1), 0);
        Check.due("to another cabinet, where none is ready", x.bring(0, 0, 5), 1);
        Check.due("its charge", Edge.charges(x), 5, 0, 89);
        SwapGo y = Edge.workshop(8, 0, 0);
        Edge.aged(y, 60);
        y.sick(0, true);
        y.set(Edge.LIFE, 1);
        Check.due("one that is sick and old", y.bring(1, 0, 100), 1);
        Check.due("its age", Edge.ages(y), 60);
    }

    private static void bringRefused() {
        Check.sentence("Promise 9", "Refused: likewise; no SLOT left.");
        SwapGo x = Edge.town(8, 0, 0);
        x.cabinet(0, 0, 1, 0, 0);
        Edge.packs(x, 0, 90, 85);
        Edge.packs(x, 1, 99);
        x.take(0);
        String before = Check.snapshot(x);
        for (int p : Edge.outside(0, 2)) {
            Check.due("pack " + p, x.bring(0, p, 0), NONE);
        }
        for (int c : Edge.outside(0, 1)) {
            Check.due("cabinet " + c, x.bring(c, 0, 50), NONE);
        }
        Check.due("in this cabinet, not out", x.bring(0, 1, 50), NONE);
        Check.due("in another cabinet, not out", x.bring(0, 2, 50), NONE);
        for (int charge : Edge.outside(0, 90)) {
            Check.due("charge " + charge, x.bring(0, 0, charge), NONE);
        }
        Check.due("charge 100, more than it had", x.bring(0, 0, 100), NONE);
        Check.due("no slot left, though one is ready", x.bring(1, 0, 50), NONE);
        Check.due("none of that changed a thing", Check.snapshot(x), before);
        x.take(1);
        Check.due("a slot is left", x.bring(1, 0, 50), 1);
        Check.due("and none again", x.bring(1, 2, 50), NONE);
        Check.due("it is there already", x.bring(1, 0, 50), NONE);
        x.set(Edge.FULL, 1);
        x.take(1);
        Check.due("more than it has, less than it had once", x.bring(1, 0, 51), NONE);
        Check.due("all that it has", x.bring(1, 0, 50), 1);
    }

    private static void move() {
        Check.sentence("Promise 10", "A PACK that is in a CABINET goes to another one: true.");
        SwapGo x = Edge.town(8, 0, 0);
        x.cabinet(0, 0, 2, 0, 0);
        Edge.packs(x, 0, 90, 0, 50);
        Check.due("one that is ready", x.move(0, 1), true);
        Check.due("one with no charge, into the last slot", x.move(1, 1), true);
        Check.due("their cabinets", Edge.homes(x), 1, 1, 0);
        Check.due("their charges", Edge.charges(x), 90, 0, 50);
        Check.due("packs there", x.in(1, 0), 2);
        Check.due("packs here", x.in(0, 0), 1);
        x.sick(1, true);
        Check.due("a sick one", x.move(1, 0), true);
        Check.due("it is sick still", x.count(4), 1);
        x.set(Edge.LIFE, 1);
        Check.due("back", x.move(0, 0), true);
        Check.due("all are here", Edge.homes(x), 0, 0, 0);
        Check.due("none is out", x.count(3), 0);
        SwapGo y = Edge.workshop(8, 0, 0);
        y.bring(0, Edge.aged(y, 60), 20);
        y.set(Edge.LIFE, 60);
        Check.due("an old one", y.move(0, 1), true);
        Check.due("its age", Edge.ages(y), 60);
    }

    private static void moveRefused() {
        Check.sentence("Promise 10", "Refused: none such, it is OUT, no SLOT left, there already.");
        SwapGo x = Edge.town(8, 0, 0);
        x.cabinet(0, 0, 1, 0, 0);
        x.cabinet(0, 0, 8, 0, 0);
        Edge.packs(x, 0, 90, 50);
        Edge.packs(x, 1, 40);
        x.take(0);
        String before = Check.snapshot(x);
        for (int p : Edge.outside(0, 2)) {
            Check.due("pack " + p, x.move(p, 2), false);
        }
        for (int c : Edge.outside(0, 2)) {
            Check.due("cabinet " + c, x.move(1, c), false);
            Check.due("cabinet " + c + ", one that is out", x.move(0, c), false);
        }
        Check.due("it is out", x.move(0, 2), false);
        Check.due("no slot left", x.move(1, 1), false);
        Check.due("there already", x.move(1, 0), false);
        Check.due("there already, where no slot is left", x.move(2, 1), false);
        Check.due("none of that changed a thing", Check.snapshot(x), before);
        Check.due("it leaves its slot", x.move(2, 2), true);
        Check.due("which is left then", x.move(1, 1), true);
    }

    private static void run() {
        Check.sentence("Promise 11", "n HOURS (0 .. 200) go: the HOUR then.");
        SwapGo x = Edge.town(8, 1, 0);
        x.pack(0, 0);
        x.set(Edge.RATE, 1);
        Check.due("none", x.run(0), 0);
        Check.due("none is charged", Edge.charges(x), 0);
        Check.due("one", x.run(1), 1);
        Check.due("charged once", Edge.charges(x), 1);
        Check.due("none again", x.run(0), 1);
        Check.due("forty", x.run(40), 41);
        Check.due("charged forty times more", Edge.charges(x), 41);
        Check.due("two hundred less one", x.run(199), 240);
        Check.due("two hundred", x.run(200), 440);
        Check.due("the hour that is told", x.count(2), 440);
        Check.due("charged up to full", Edge.charges(x), 100);
        Check.due("a hundred charges", x.in(0, 3), 1000);
        SwapGo y = Edge.town(8, 8, 0);
        Edge.packs(y, 0, 0, 0, 0, 0, 0, 0, 0, 0);
        y.set(Edge.RATE, 1);
        Edge.prices(y, 1, 2, 3);
        y.run(25);
        Check.due("each hour at its price", y.in(0, 3), 8 * (1 + 2 + 3 + 21 * 10 + 1));
    }

    private static void runRefused() {
        Check.sentence("Promise 11", "Refused: others, HOUR above 10000.");
        SwapGo x = Edge.town(8, 1, 0);
        x.pack(0, 0);
        for (int n : Edge.outside(0, 200)) {
            Check.due("hours " + n, x.run(n), NONE);
        }
        Check.due("no hour went", x.count(2), 0);
        Check.due("none was charged", Edge.charges(x), 0);
        Edge.runTo(x, 9800);
        Check.due("up to 9999", x.run(199), 9999);
        x.take(0);
        x.bring(0, 0, 10);
        Check.due("to 10001", x.run(2), NONE);
        Check.due("far above", x.run(200), NONE);
        Check.due("not even the first of them went", x.count(2), 9999);
        Check.due("none was charged", Edge.charges(x), 10);
        Check.due("up to 10000", x.run(1), 10000);
        Check.due("this one was", Edge.charges(x), 35);
        Check.due("to 10001", x.run(1), NONE);
        Check.due("far above", x.run(200), NONE);
        Check.due("none more", x.run(0), 10000);
        Check.due("10000 still", x.count(2), 10000);
        for (int n : Edge.outside(0, 200)) {
            Check.due("hours " + n, x.run(n), NONE);
        }
        SwapGo y = new SwapGo();
        Edge.runTo(y, 9800);
        Check.due("two hundred up to 10000", y.run(200), 10000);
        SwapGo z = new SwapGo();
        Edge.runTo(z, 9801);
        Check.due("two hundred to 10001", z.run(200), NONE);
        Check.due("9801 still", z.count(2), 9801);
    }
}

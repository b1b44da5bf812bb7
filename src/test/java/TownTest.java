/** Promises 1 to 6 and 12 to 14: what there is, and what is told of it. */
public final class TownTest {
    private static final int[] WILD = {Integer.MIN_VALUE, -1, Integer.MAX_VALUE};

    public static void main(String[] args) {
        newObject();
        cabinets();
        packs();
        settings();
        prices();
        sickness();
        counts();
        ofPacks();
        inCabinets();
        Check.end("TownTest");
    }

    private static void newObject() {
        SwapGo x = new SwapGo();
        String none12 = " -1 -1 -1 -1 -1 -1 -1 -1 -1 -1 -1 -1";
        Check.due("1: a new object", Check.snapshot(x), " count: 0 0 0 0 0 0 0 0 0 10"
                + " planned:" + none12 + " stop: -1 -1 -1 -1 -1 -1 chosen 0");
        Check.due("1: LIFE", x.set(0, 7), 2000);
        Check.due("1: FULL", x.set(1, 7), 80);
        Check.due("1: CAP", x.set(2, 7), 1000);
        Check.due("1: RATE", x.set(3, 7), 25);
        Check.due("1: VAN", x.set(4, 7), 10);
        for (int h = 0; h < 24; h++) {
            Check.due("1: PRICE of hour " + h, x.count(9), 10);
            x.run(1);
        }
    }

    private static void cabinets() {
        SwapGo x = new SwapGo();
        for (int wild : WILD) {
            Check.due("2: x", x.cabinet(wild, 0, 1, 0, 0), SwapGo.NONE);
            Check.due("2: y", x.cabinet(0, wild, 1, 0, 0), SwapGo.NONE);
            Check.due("2: slots", x.cabinet(0, 0, wild, 0, 0), SwapGo.NONE);
            Check.due("2: lines", x.cabinet(0, 0, 1, wild, 0), SwapGo.NONE);
            Check.due("2: need", x.cabinet(0, 0, 1, 0, wild), SwapGo.NONE);
        }
        Check.due("2: x 100", x.cabinet(100, 0, 1, 0, 0), SwapGo.NONE);
        Check.due("2: y 100", x.cabinet(0, 100, 1, 0, 0), SwapGo.NONE);
        Check.due("2: slots 0", x.cabinet(0, 0, 0, 0, 0), SwapGo.NONE);
        Check.due("2: slots 9", x.cabinet(0, 0, 9, 0, 0), SwapGo.NONE);
        Check.due("2: lines 9", x.cabinet(0, 0, 1, 9, 0), SwapGo.NONE);
        Check.due("2: need 9", x.cabinet(0, 0, 1, 0, 9), SwapGo.NONE);
        Check.due("2: none of them stands", x.count(0), 0);
        Check.due("2: the least", x.cabinet(0, 0, 1, 0, 0), 0);
        Check.due("2: the greatest", x.cabinet(99, 99, 8, 8, 8), 1);
        for (int c = 2; c < 6; c++) {
            Check.due("2: cabinet " + c, x.cabinet(0, 0, 1, 0, 0), c);
            Check.due("2: its wish", x.in(c, 4), 0);
        }
        Check.due("2: a seventh", x.cabinet(0, 0, 1, 0, 0), SwapGo.NONE);
        Check.due("2: still six", x.count(0), 6);
    }

    private static void packs() {
        SwapGo x = new SwapGo();
        Check.due("3: no cabinet yet", x.pack(0, 50), SwapGo.NONE);
        for (int c = 0; c < 6; c++) {
            x.cabinet(0, 0, c == 0 ? 2 : 8, 0, 0);
        }
        for (int wild : WILD) {
            Check.due("3: cabinet", x.pack(wild, 50), SwapGo.NONE);
            Check.due("3: charge", x.pack(0, wild), SwapGo.NONE);
        }
        Check.due("3: cabinet 6", x.pack(6, 50), SwapGo.NONE);
        Check.due("3: charge 101", x.pack(0, 101), SwapGo.NONE);
        Check.due("3: charge 0", x.pack(0, 0), 0);
        Check.due("3: charge 100", x.pack(0, 100), 1);
        Check.due("3: no slot left", x.pack(0, 50), SwapGo.NONE);
        Check.due("3: its charge", Check.of(x, 0, 0), 0);
        Check.due("3: its age", Check.of(x, 1, 1), 0);
        for (int p = 2; p < 30; p++) {
            Check.due("3: pack " + p, x.pack(1 + (p - 2) / 8, p), p);
            Check.due("3: its cabinet", Check.of(x, p, 2), 1 + (p - 2) / 8);
        }
        Check.due("3: slots are left", x.in(5, 0), 0);
        Check.due("3: a thirty-first", x.pack(5, 50), SwapGo.NONE);
        Check.due("3: still thirty", x.count(1), 30);
    }

    private static void settings() {
        int[] least = {1, 1, 0, 1, 1};
        int[] most = {100000, 100, 1000, 100, 30};
        int[] first = {2000, 80, 1000, 25, 10};
        SwapGo x = new SwapGo();
        for (int what = 0; what < 5; what++) {
            Check.due("4: below the least of " + what, x.set(what, least[what] - 1), SwapGo.NONE);
            Check.due("4: above the most of " + what, x.set(what, most[what] + 1), SwapGo.NONE);
            for (int wild : WILD) {
                Check.due("4: wild value of " + what, x.set(what, wild), SwapGo.NONE);
            }
            Check.due("4: the least of " + what, x.set(what, least[what]), first[what]);
            Check.due("4: the most of " + what, x.set(what, most[what]), least[what]);
            Check.due("4: the most was kept of " + what, x.set(what, most[what]), most[what]);
        }
        Check.due("4: what 5", x.set(5, 1), SwapGo.NONE);
        for (int wild : WILD) {
            Check.due("4: wild what", x.set(wild, 1), SwapGo.NONE);
        }
    }

    private static void prices() {
        SwapGo x = new SwapGo();
        for (int h = 0; h < 24; h++) {
            Check.due("5: hour " + h, x.price(h, h == 23 ? 1000 : h), true);
        }
        for (int wild : WILD) {
            Check.due("5: wild hour", x.price(wild, 5), false);
            Check.due("5: wild price", x.price(0, wild), false);
        }
        Check.due("5: hour 24", x.price(24, 5), false);
        Check.due("5: price 1001", x.price(0, 1001), false);
        for (int h = 0; h < 48; h++) {
            Check.due("5: price of hour " + h, x.count(9), h % 24 == 23 ? 1000 : h % 24);
            x.run(1);
        }
    }

    private static void sickness() {
        SwapGo x = new SwapGo();
        x.cabinet(0, 0, 4, 4, 4);
        x.pack(0, 90);
        x.pack(0, 85);
        Check.due("6: sick", x.sick(0, true), true);
        Check.due("6: not ready then", Check.of(x, 0, 3), 0);
        Check.due("6: sick again", x.sick(0, true), true);
        Check.due("6: one is sick", x.count(4), 1);
        x.run(1);
        Check.due("6: a sick one is not charged", Check.of(x, 0, 0), 90);
        Check.due("6: another is", Check.of(x, 1, 0), 100);
        Check.due("6: well", x.sick(0, false), true);
        Check.due("6: ready then", Check.of(x, 0, 3), 1);
        Check.due("6: none is sick", x.count(4), 0);
        Check.due("6: taken", x.take(0), 1);
        Check.due("6: one that is out", x.sick(1, true), true);
        Check.due("6: counts", x.count(4), 1);
        Check.due("6: none such", x.sick(2, true), false);
        for (int wild : WILD) {
            Check.due("6: wild", x.sick(wild, true), false);
        }
    }

    private static void counts() {
        SwapGo x = new SwapGo();
        x.cabinet(0, 0, 8, 2, 0);
        x.cabinet(0, 0, 8, 0, 0);
        for (int charge : new int[] {100, 95, 90, 40}) {
            x.pack(0, charge);
        }
        x.pack(1, 85);
        x.run(1);
        x.take(0);
        x.take(1);
        x.sick(3, true);
        x.sick(2, true);
        x.sick(4, true);
        x.set(0, 5);
        x.need(3);
        x.point(0, 1, 1);
        x.point(0, 1, 1);
        x.point(1, 1, 1);
        x.point(1, 1, 1);
        x.point(1, 1, 1);
        x.point(1, 1, 1);
        x.price(1, 77);
        int[] due = {2, 5, 1, 2, 3, 2, 1, 2, 4, 77};
        for (int what = 0; what < 10; what++) {
            Check.due("12: count " + what, x.count(what), due[what]);
        }
        Check.due("12: another what", x.count(10), SwapGo.NONE);
        for (int wild : WILD) {
            Check.due("12: wild what", x.count(wild), SwapGo.NONE);
        }
        x.set(0, 6);
        Check.due("12: with an age of life or more", x.count(5), 1);
    }

    private static void ofPacks() {
        SwapGo x = new SwapGo();
        Check.due("13: no packs", Check.of(x, 0, 0), Check.THROWN);
        x.cabinet(0, 0, 8, 0, 0);
        x.cabinet(0, 0, 8, 8, 0);
        x.pack(0, 79);
        x.pack(0, 80);
        x.pack(1, 60);
        x.run(1);
        int[][] due = {{79, 0, 0, 0}, {80, 0, 0, 1}, {85, 25, 1, 1}};
        for (int p = 0; p < 3; p++) {
            for (int what = 0; what < 4; what++) {
                Check.due("13: of " + p + ", " + what, Check.of(x, p, what), due[p][what]);
            }
        }
        x.take(1);
        Check.due("13: out, its charge", Check.of(x, 2, 0), 85);
        Check.due("13: out, its age", Check.of(x, 2, 1), 25);
        Check.due("13: out, its cabinet", Check.of(x, 2, 2), SwapGo.NONE);
        Check.due("13: out, ready", Check.of(x, 2, 3), 0);
        x.set(1, 81);
        Check.due("13: FULL above its charge", Check.of(x, 1, 3), 0);
        x.set(1, 79);
        Check.due("13: FULL is its charge", Check.of(x, 0, 3), 1);
        Check.due("13: no such pack", Check.of(x, 3, 0), Check.THROWN);
        Check.due("13: another what", Check.of(x, 0, 4), Check.THROWN);
        for (int wild : WILD) {
            Check.due("13: wild pack", Check.of(x, wild, 0), Check.THROWN);
            Check.due("13: wild what", Check.of(x, 0, wild), Check.THROWN);
        }
        oldPack();
    }

    private static void oldPack() {
        SwapGo x = new SwapGo();
        x.cabinet(0, 0, 1, 1, 0);
        x.pack(0, 75);
        x.run(1);
        x.set(0, 25);
        Check.due("13: AGE is LIFE", Check.of(x, 0, 3), 0);
        x.set(0, 26);
        Check.due("13: AGE below LIFE", Check.of(x, 0, 3), 1);
    }

    private static void inCabinets() {
        SwapGo x = new SwapGo();
        Check.due("14: no cabinets", x.in(0, 0), SwapGo.NONE);
        x.cabinet(0, 0, 8, 2, 0);
        x.cabinet(0, 0, 8, 0, 0);
        x.pack(0, 100);
        x.pack(0, 80);
        x.pack(0, 10);
        x.pack(0, 79);
        x.wish(0, 5);
        x.price(0, 30);
        x.run(1);
        int[][] due = {{4, 3, 0, 60, 5}, {0, 0, SwapGo.NONE, 0, 0}};
        for (int c = 0; c < 2; c++) {
            for (int what = 0; what < 5; what++) {
                Check.due("14: in " + c + ", " + what, x.in(c, what), due[c][what]);
            }
            Check.due("14: another what", x.in(c, 5), SwapGo.NONE);
        }
        Check.due("14: no such cabinet", x.in(2, 0), SwapGo.NONE);
        for (int wild : WILD) {
            Check.due("14: wild cabinet", x.in(wild, 0), SwapGo.NONE);
            Check.due("14: wild what", x.in(0, wild), SwapGo.NONE);
        }
    }
}

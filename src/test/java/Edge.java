import java.util.stream.IntStream;

/** What the tests of single sentences share: numbers beside a range, and towns in the state they want. */
final class Edge {
    static final int NONE = SwapGo.NONE;

    static final int LIFE = 0;
    static final int FULL = 1;
    static final int CAP = 2;
    static final int RATE = 3;
    static final int VAN = 4;
    static final int[] FIRST_SETTING = {2000, 80, 1000, 25, 10};
    static final int[] LEAST_SETTING = {1, 1, 0, 1, 1};
    static final int[] MOST_SETTING = {100000, 100, 1000, 100, 30};

    private Edge() {
    }

    /** Numbers that are too small or too large, the nearest and the farthest of them. */
    static int[] outside(int least, int most) {
        return new int[] {least - 1, Integer.MIN_VALUE, most + 1, Integer.MAX_VALUE};
    }

    /** A new object with one cabinet at 0, 0. */
    static SwapGo town(int slots, int lines, int need) {
        SwapGo x = new SwapGo();
        x.cabinet(0, 0, slots, lines, need);
        return x;
    }

    static void packs(SwapGo x, int cabinet, int... charges) {
        for (int charge : charges) {
            x.pack(cabinet, charge);
        }
    }

    /** A new object whose cabinet 0 makes packs of some age; the cabinet 1 has the slots, lines and need. */
    static SwapGo workshop(int slots, int lines, int need) {
        SwapGo x = town(1, 1, 0);
        x.set(RATE, 100);
        x.cabinet(0, 0, slots, lines, need);
        return x;
    }

    /** A new pack of an age (0 .. 100), full and out; the cabinet 0 is a workshop that is empty. */
    static int aged(SwapGo x, int age) {
        x.pack(0, 100 - age);
        x.run(1);
        return x.take(0);
    }

    static int[] charges(SwapGo x) {
        return ofAll(x, 0);
    }

    static int[] ages(SwapGo x) {
        return ofAll(x, 1);
    }

    static int[] homes(SwapGo x) {
        return ofAll(x, 2);
    }

    static int[] readyOnes(SwapGo x) {
        return ofAll(x, 3);
    }

    private static int[] ofAll(SwapGo x, int what) {
        return IntStream.range(0, x.count(1)).map(p -> Check.of(x, p, what)).toArray();
    }

    /** The plan kept, up to the first NONE. */
    static int[] plan(SwapGo x) {
        return IntStream.range(0, 13).map(x::planned).takeWhile(v -> v != NONE).toArray();
    }

    /** The round kept, up to the first NONE. */
    static int[] stops(SwapGo x) {
        return IntStream.range(0, 7).map(x::stop).takeWhile(v -> v != NONE).toArray();
    }

    static void needs(SwapGo x, int... needs) {
        for (int v : needs) {
            x.need(v);
        }
    }

    /** Prices of the first hours of the day. */
    static void prices(SwapGo x, int... prices) {
        for (int h = 0; h < prices.length; h++) {
            x.price(h, prices[h]);
        }
    }

    /** A cabinet with eight slots and a number of packs with a wish. */
    static void stop(SwapGo x, int atX, int atY, int packs, int wish) {
        int c = x.cabinet(atX, atY, 8, 0, 0);
        for (int p = 0; p < packs; p++) {
            x.pack(c, 50);
        }
        x.wish(c, wish);
    }

    /** Lets hours go until the hour is the one told. */
    static void runTo(SwapGo x, int hour) {
        int hours = hour - x.count(2);
        for (; hours > 200; hours -= 200) {
            x.run(200);
        }
        x.run(hours);
    }
}

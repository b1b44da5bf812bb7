import java.util.ArrayList;
import java.util.List;
import java.util.Random;

/** Promises 22 to 24: points of riders, and the best new places for them. */
public final class NewPlacesTest {
    private static final int[] WILD = {Integer.MIN_VALUE, -1, 100, Integer.MAX_VALUE};

    private static int least;
    private static int leastBits;

    public static void main(String[] args) {
        points();
        bestPlaces();
        firstRows();
        Random random = new Random(31);
        for (int i = 0; i < 200; i++) {
            againstAllRows(random);
        }
        Check.end("NewPlacesTest");
    }

    private static void points() {
        SwapGo x = new SwapGo();
        for (int wild : WILD) {
            Check.due("22: what", x.point(wild, 1, 1), SwapGo.NONE);
            Check.due("22: x of a point", x.point(0, wild, 1), SwapGo.NONE);
            Check.due("22: y of a point", x.point(0, 1, wild), SwapGo.NONE);
            Check.due("22: x of a place", x.point(1, wild, 1), SwapGo.NONE);
            Check.due("22: y of a place", x.point(1, 1, wild), SwapGo.NONE);
        }
        Check.due("22: what 2", x.point(2, 1, 1), SwapGo.NONE);
        for (int i = 0; i < 12; i++) {
            Check.due("22: point", x.point(0, i == 0 ? 0 : 99, i == 0 ? 0 : 99), i);
        }
        Check.due("22: a thirteenth point", x.point(0, 1, 1), SwapGo.NONE);
        for (int i = 0; i < 8; i++) {
            Check.due("22: place", x.point(1, i == 0 ? 0 : 99, i == 0 ? 0 : 99), i);
        }
        Check.due("22: a ninth place", x.point(1, 1, 1), SwapGo.NONE);
        Check.due("22: points", x.count(7), 12);
        Check.due("22: places", x.count(8), 8);
    }

    private static void bestPlaces() {
        SwapGo x = new SwapGo();
        Check.due("24: at first", x.chosen(), 0);
        Check.due("23: no place and no cabinet", x.places(0), SwapGo.NONE);
        x.point(0, 10, 10);
        x.point(0, 90, 90);
        x.point(1, 0, 0);
        x.point(1, 90, 80);
        x.point(1, 10, 20);
        Check.due("23: none of them, and no cabinet", x.places(0), SwapGo.NONE);
        Check.due("23: one", x.places(1), 160);
        Check.due("24: it", x.chosen(), 2);
        Check.due("23: two", x.places(2), 20);
        Check.due("24: the last two", x.chosen(), 6);
        for (int wild : new int[] {Integer.MIN_VALUE, -1, 4, Integer.MAX_VALUE}) {
            Check.due("23: k " + wild, x.places(wild), SwapGo.NONE);
        }
        Check.due("23: none of them, and no cabinet", x.places(0), SwapGo.NONE);
        Check.due("24: refused ones keep none", x.chosen(), 6);
        Check.due("23: all", x.places(3), 20);
        Check.due("24: all", x.chosen(), 7);
        x.cabinet(90, 90, 1, 0, 0);
        Check.due("24: a cabinet more does not change it", x.chosen(), 7);
        Check.due("23: a cabinet is near too", x.places(1), 10);
        Check.due("24: the other one's place", x.chosen(), 4);
        Check.due("23: only a cabinet", x.places(0), 160);
        Check.due("24: no place", x.chosen(), 0);
    }

    private static void firstRows() {
        SwapGo x = new SwapGo();
        for (int i = 0; i < 4; i++) {
            x.point(1, i == 0 || i == 3 ? 0 : 5, i < 2 ? 0 : 5);
        }
        Check.due("23: no points", x.places(2), 0);
        Check.due("24: the first row", x.chosen(), 3);
        x.point(0, 0, 0);
        x.point(0, 5, 0);
        x.point(0, 5, 5);
        x.point(0, 0, 5);
        Check.due("23: two of a square", x.places(2), 10);
        Check.due("24: 0 and 1 are the first row", x.chosen(), 3);
        SwapGo y = new SwapGo();
        y.point(0, 0, 0);
        y.point(0, 50, 0);
        y.point(1, 0, 0);
        y.point(1, 0, 0);
        y.point(1, 50, 0);
        y.point(1, 50, 0);
        Check.due("23: each point has two", y.places(2), 0);
        Check.due("24: 0 and 2 go ahead of 0 and 3, 1 and 2", y.chosen(), 5);
        rowsAreNotBits();
    }

    /** Two corners of a square that face each other are best for riders half way along its sides. */
    private static void rowsAreNotBits() {
        SwapGo x = new SwapGo();
        for (int i = 0; i < 4; i++) {
            x.point(1, i % 2 * 20, i / 2 * 20);
        }
        x.point(0, 10, 0);
        x.point(0, 0, 10);
        x.point(0, 20, 10);
        x.point(0, 10, 20);
        Check.due("23: 0 and 3, or 1 and 2", x.places(2), 40);
        Check.due("24: 0 and 3 go first, though their bits are more", x.chosen(), 9);
    }

    private static void againstAllRows(Random random) {
        SwapGo x = new SwapGo();
        int wide = random.nextBoolean() ? 5 : 100;
        List<int[]> cabinets = spots(random, random.nextInt(4), wide);
        List<int[]> riders = spots(random, random.nextInt(13), wide);
        List<int[]> sites = spots(random, random.nextInt(9), wide);
        cabinets.forEach(s -> x.cabinet(s[0], s[1], 1, 0, 0));
        riders.forEach(s -> x.point(0, s[0], s[1]));
        sites.forEach(s -> x.point(1, s[0], s[1]));
        for (int k = 0; k <= sites.size(); k++) {
            if (k > 0 || !cabinets.isEmpty()) {
                least = -1;
                tryRows(cabinets, riders, sites, k, 0, 0);
                Check.due("23: least of all rows", x.places(k), least);
                Check.due("24: the first of them", x.chosen(), leastBits);
            }
        }
    }

    private static List<int[]> spots(Random random, int size, int wide) {
        List<int[]> found = new ArrayList<>();
        for (int i = 0; i < size; i++) {
            found.add(new int[] {random.nextInt(wide), random.nextInt(wide)});
        }
        return found;
    }

    /** Goes through all rows of k places, the first ones first; near holds the cabinets at first. */
    private static void tryRows(List<int[]> near, List<int[]> riders, List<int[]> sites, int k, int from, int bits) {
        if (k == 0) {
            int sum = riders.stream().mapToInt(r -> near.stream()
                    .mapToInt(s -> Math.abs(s[0] - r[0]) + Math.abs(s[1] - r[1])).min().getAsInt()).sum();
            if (least == -1 || sum < least) {
                least = sum;
                leastBits = bits;
            }
            return;
        }
        for (int i = from; i < sites.size(); i++) {
            List<int[]> more = new ArrayList<>(near);
            more.add(sites.get(i));
            tryRows(more, riders, sites, k - 1, i + 1, bits | 1 << i);
        }
    }
}

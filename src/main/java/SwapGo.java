import java.util.Arrays;
import java.util.NoSuchElementException;

/**
 * Packs for scooters, charged in cabinets over a town. The document DOC.md tells what each call
 * answers. All rows are made with the object and used again, so that no later call makes one.
 */
public final class SwapGo {
    public static final int NONE = -1;

    private static final int IMPOSSIBLE = -2;

    private static final int MOST_CABINETS = 6;
    private static final int MOST_PACKS = 30;
    private static final int MOST_NEEDS = 12;
    private static final int MOST_POINTS = 12;
    private static final int MOST_PLACES = 8;

    private static final int LAST_COORDINATE = 99;
    private static final int MOST_SLOTS = 8;
    private static final int MOST_LINES = 8;
    private static final int MOST_NEED = 8;
    private static final int MOST_WISH = 8;
    private static final int MOST_HOURLY_NEED = 20;
    private static final int MOST_PLAN_LINES = 20;
    private static final int WHOLE_CHARGE = 100;
    private static final int DAY = 24;
    private static final int FIRST_PRICE = 10;
    private static final int MOST_PRICE = 1000;
    private static final int MOST_HOURS_AT_ONCE = 200;
    private static final int LAST_HOUR = 10000;

    /** Further than any two points of the town are from each other. */
    private static final int FAR = 1000;

    private static final int LIFE = 0;
    private static final int FULL = 1;
    private static final int CAP = 2;
    private static final int RATE = 3;
    private static final int VAN = 4;
    private static final int[] LEAST_SETTING = {1, 1, 0, 1, 1};
    private static final int[] MOST_SETTING = {100000, 100, 1000, 100, 30};

    private final int[] settings = {2000, 80, 1000, 25, 10};
    private final int[] prices = new int[DAY];
    private final Cabinets cabinets = new Cabinets();
    private final Packs packs = new Packs();
    private final ChargePlan chargePlan = new ChargePlan();
    private final VanRound vanRound = new VanRound();
    private final NewPlaces newPlaces = new NewPlaces();
    private int hour;

    public SwapGo() {
        Arrays.fill(prices, FIRST_PRICE);
    }

    public int cabinet(int x, int y, int slots, int lines, int need) {
        if (!isInTown(x, y) || !isWithin(slots, 1, MOST_SLOTS)
                || !isWithin(lines, 0, MOST_LINES) || !isWithin(need, 0, MOST_NEED)) {
            return NONE;
        }
        return cabinets.add(x, y, slots, lines, need);
    }

    public int pack(int cabinet, int charge) {
        if (!hasSlotLeft(cabinet) || !isWithin(charge, 0, WHOLE_CHARGE)) {
            return NONE;
        }
        return packs.add(cabinet, charge);
    }

    public int set(int what, int v) {
        if (!isWithin(what, LIFE, VAN) || !isWithin(v, LEAST_SETTING[what], MOST_SETTING[what])) {
            return NONE;
        }
        int before = settings[what];
        settings[what] = v;
        return before;
    }

    public boolean price(int hour, int v) {
        if (!isWithin(hour, 0, DAY - 1) || !isWithin(v, 0, MOST_PRICE)) {
            return false;
        }
        prices[hour] = v;
        return true;
    }

    public boolean sick(int pack, boolean is) {
        if (!packs.has(pack)) {
            return false;
        }
        packs.sickness[pack] = is;
        return true;
    }

    public int take(int cabinet) {
        int given = givenIn(cabinet);
        if (given != NONE) {
            packs.home[given] = NONE;
        }
        return given;
    }

    public int swap(int cabinet, int pack, int charge) {
        if (!cabinets.has(cabinet) || !canComeBack(pack, charge)) {
            return NONE;
        }
        int given = take(cabinet);
        if (given != NONE) {
            packs.comeBack(pack, cabinet, charge);
        }
        return given;
    }

    public int bring(int cabinet, int pack, int charge) {
        if (!hasSlotLeft(cabinet) || !canComeBack(pack, charge)) {
            return NONE;
        }
        packs.comeBack(pack, cabinet, charge);
        return packs.countIn(cabinet);
    }

    public boolean move(int pack, int cabinet) {
        if (!packs.has(pack) || packs.isOut(pack) || packs.home[pack] == cabinet
                || !hasSlotLeft(cabinet)) {
            return false;
        }
        packs.home[pack] = cabinet;
        return true;
    }

    public int run(int n) {
        if (!isWithin(n, 0, MOST_HOURS_AT_ONCE) || hour + n > LAST_HOUR) {
            return NONE;
        }
        for (int i = 0; i < n; i++) {
            passHour();
        }
        return hour;
    }

    public int count(int what) {
        switch (what) {
            case 0:
                return cabinets.size();
            case 1:
                return packs.size;
            case 2:
                return hour;
            case 3:
                return packs.countIn(NONE);
            case 4:
                return packs.countSick();
            case 5:
                return packs.countOld(settings[LIFE]);
            case 6:
                return chargePlan.size;
            case 7:
                return newPlaces.riders.size;
            case 8:
                return newPlaces.sites.size;
            case 9:
                return priceNow();
            default:
                return NONE;
        }
    }

    public int of(int pack, int what) throws NoSuchElementException {
        if (!packs.has(pack)) {
            throw new NoSuchElementException("no such pack");
        }
        switch (what) {
            case 0:
                return packs.charge[pack];
            case 1:
                return packs.age[pack];
            case 2:
                return packs.home[pack];
            case 3:
                return isReady(pack) ? 1 : 0;
            default:
                throw new NoSuchElementException("nothing such is known of a pack");
        }
    }

    public int in(int cabinet, int what) {
        if (!cabinets.has(cabinet)) {
            return NONE;
        }
        switch (what) {
            case 0:
                return packs.countIn(cabinet);
            case 1:
                return countReadyIn(cabinet);
            case 2:
                return givenIn(cabinet);
            case 3:
                return cabinets.bill[cabinet];
            case 4:
                return cabinets.wished[cabinet];
            default:
                return NONE;
        }
    }

    // ---- plans

    public int need(int v) {
        return isWithin(v, 0, MOST_HOURLY_NEED) ? chargePlan.addNeed(v) : NONE;
    }

    public int clear() {
        int before = chargePlan.size;
        chargePlan.size = 0;
        newPlaces.riders.size = 0;
        newPlaces.sites.size = 0;
        return before;
    }

    public int plan(int lines) {
        return isWithin(lines, 0, MOST_PLAN_LINES) ? chargePlan.keepLeast(prices, hour, lines) : NONE;
    }

    public int planned(int i) {
        return isWithin(i, 0, chargePlan.keptSize - 1) ? chargePlan.kept[i] : NONE;
    }

    public boolean wish(int cabinet, int v) {
        if (!cabinets.has(cabinet) || !isWithin(v, 0, MOST_WISH)) {
            return false;
        }
        cabinets.wished[cabinet] = v;
        return true;
    }

    public int round() {
        vanRound.begin(settings[VAN]);
        for (int c = 0; c < cabinets.size(); c++) {
            vanRound.addSurplus(c, packs.countIn(c) - cabinets.wished[c]);
        }
        return vanRound.keepShortest(cabinets.spots);
    }

    public int stop(int i) {
        return isWithin(i, 0, vanRound.keptSize - 1) ? vanRound.kept[i] : NONE;
    }

    public int point(int what, int x, int y) {
        if (!isWithin(what, 0, 1) || !isInTown(x, y)) {
            return NONE;
        }
        return what == 0 ? newPlaces.riders.add(x, y) : newPlaces.sites.add(x, y);
    }

    public int places(int k) {
        if (!isWithin(k, 0, newPlaces.sites.size) || k == 0 && cabinets.size() == 0) {
            return NONE;
        }
        return newPlaces.keepBest(k, cabinets.spots);
    }

    public int chosen() {
        return newPlaces.kept;
    }

    private static boolean isWithin(int v, int least, int most) {
        return v >= least && v <= most;
    }

    private static boolean isInTown(int x, int y) {
        return isWithin(x, 0, LAST_COORDINATE) && isWithin(y, 0, LAST_COORDINATE);
    }

    private boolean hasSlotLeft(int cabinet) {
        return cabinets.has(cabinet) && packs.countIn(cabinet) < cabinets.slots[cabinet];
    }

    private boolean canComeBack(int pack, int charge) {
        return packs.has(pack) && packs.isOut(pack) && isWithin(charge, 0, packs.charge[pack]);
    }

    private boolean isReady(int pack) {
        return !packs.isOut(pack) && packs.isFit(pack, settings[LIFE])
                && packs.charge[pack] >= settings[FULL];
    }

    private int countReadyIn(int cabinet) {
        int found = 0;
        for (int p = 0; p < packs.size; p++) {
            if (packs.home[p] == cabinet && isReady(p)) {
                found++;
            }
        }
        return found;
    }

    private int givenIn(int cabinet) {
        int given = NONE;
        if (!cabinets.has(cabinet)) {
            return given;
        }
        for (int p = 0; p < packs.size; p++) {
            if (packs.home[p] == cabinet && isReady(p)) {
                given = packs.former(given, p);
            }
        }
        return given;
    }

    private int priceNow() {
        return prices[Math.floorMod(hour, DAY)];
    }

    private void passHour() {
        int price = priceNow();
        for (int c = 0; c < cabinets.size(); c++) {
            chargeIn(c, price);
        }
        hour++;
    }

    private void chargeIn(int cabinet, int price) {
        for (int line = 0; line < cabinets.lines[cabinet]; line++) {
            boolean isDear = price > settings[CAP];
            if (isDear && countReadyIn(cabinet) >= cabinets.needed[cabinet]) {
                return;
            }
            int next = nextToCharge(cabinet);
            if (next == NONE) {
                return;
            }
            packs.load(next, settings[RATE], hour);
            cabinets.bill[cabinet] += price;
        }
    }

    private int nextToCharge(int cabinet) {
        int next = NONE;
        for (int p = 0; p < packs.size; p++) {
            if (packs.home[p] == cabinet && packs.isFit(p, settings[LIFE])
                    && packs.charge[p] < WHOLE_CHARGE && packs.lastHour[p] != hour) {
                next = packs.former(next, p);
            }
        }
        return next;
    }

    /** Points of the town, each known by its number. */
    private static final class Spots {
        final int[] xs;
        final int[] ys;
        int size;

        Spots(int most) {
            int length = Math.max(most, 0);
            xs = new int[length];
            ys = new int[length];
        }

        int add(int x, int y) {
            if (size >= xs.length) {
                return NONE;
            }
            xs[size] = x;
            ys[size] = y;
            size++;
            return size - 1;
        }

        int distance(int i, int x, int y) {
            return Math.abs(xs[i] - x) + Math.abs(ys[i] - y);
        }
    }

    private static final class Cabinets {
        final Spots spots = new Spots(MOST_CABINETS);
        final int[] slots = new int[MOST_CABINETS];
        final int[] lines = new int[MOST_CABINETS];
        final int[] needed = new int[MOST_CABINETS];
        final int[] bill = new int[MOST_CABINETS];
        final int[] wished = new int[MOST_CABINETS];

        int size() {
            return spots.size;
        }

        boolean has(int cabinet) {
            return isWithin(cabinet, 0, spots.size - 1);
        }

        int add(int x, int y, int slotCount, int lineCount, int neededCount) {
            int number = spots.add(x, y);
            if (number != NONE) {
                slots[number] = slotCount;
                lines[number] = lineCount;
                needed[number] = neededCount;
            }
            return number;
        }
    }

    private static final class Packs {
        final int[] charge = new int[MOST_PACKS];
        final int[] age = new int[MOST_PACKS];
        final boolean[] sickness = new boolean[MOST_PACKS];
        /** The cabinet that a pack is in; NONE: it is out. */
        final int[] home = new int[MOST_PACKS];
        /** The hour a pack was charged in last, so that no hour charges it twice. */
        final int[] lastHour = new int[MOST_PACKS];
        int size;

        boolean has(int pack) {
            return isWithin(pack, 0, size - 1);
        }

        int add(int cabinet, int firstCharge) {
            if (size >= MOST_PACKS) {
                return NONE;
            }
            charge[size] = firstCharge;
            home[size] = cabinet;
            lastHour[size] = NONE;
            size++;
            return size - 1;
        }

        boolean isOut(int pack) {
            return home[pack] == NONE;
        }

        boolean isFit(int pack, int life) {
            return !sickness[pack] && age[pack] < life;
        }

        /** Which of two goes first: the first may be NONE, and has the less number if it is not. */
        int former(int first, int second) {
            if (first == NONE || charge[second] > charge[first]) {
                return second;
            }
            boolean isYounger = charge[second] == charge[first] && age[second] < age[first];
            return isYounger ? second : first;
        }

        void comeBack(int pack, int cabinet, int chargeLeft) {
            home[pack] = cabinet;
            charge[pack] = chargeLeft;
        }

        void load(int pack, int rate, int hourNow) {
            int more = Math.min(rate, WHOLE_CHARGE - charge[pack]);
            charge[pack] += more;
            age[pack] += more;
            lastHour[pack] = hourNow;
        }

        /** How many are in a cabinet, or out (NONE). */
        int countIn(int cabinet) {
            int found = 0;
            for (int p = 0; p < size; p++) {
                if (home[p] == cabinet) {
                    found++;
                }
            }
            return found;
        }

        int countSick() {
            int found = 0;
            for (int p = 0; p < size; p++) {
                if (sickness[p]) {
                    found++;
                }
            }
            return found;
        }

        int countOld(int life) {
            int found = 0;
            for (int p = 0; p < size; p++) {
                if (age[p] >= life) {
                    found++;
                }
            }
            return found;
        }
    }

    /**
     * The needs to come, and the plan kept. A plan is right just when no hour has more than L and
     * when from each hour on there are no more charges than needs, all together being as many as
     * all needs. As those tails lie one in another, it is best to fill the cheapest hour first (the
     * early one of equal hours) as far as they let: no other hour can want any of it back.
     */
    private static final class ChargePlan {
        static final int UNFILLED = -1;
        final int[] needs = new int[MOST_NEEDS];
        final int[] draft = new int[MOST_NEEDS];
        /** The needs from an hour on that the draft has no charge for. */
        final int[] unmet = new int[MOST_NEEDS];
        final int[] hourPrices = new int[MOST_NEEDS];
        final int[] kept = new int[MOST_NEEDS];
        int size;
        int keptSize;

        int addNeed(int v) {
            if (size >= MOST_NEEDS) {
                return NONE;
            }
            needs[size] = v;
            size++;
            return size;
        }

        int keepLeast(int[] prices, int firstHour, int lines) {
            begin(prices, firstHour);
            for (int step = 0; step < size; step++) {
                int i = cheapestUnfilled();
                if (i != NONE) {
                    fill(i, lines);
                }
            }
            if (size > 0 && unmet[0] > 0) {
                return IMPOSSIBLE;
            }
            return keepDraft();
        }

        private void begin(int[] prices, int firstHour) {
            int total = 0;
            for (int i = size - 1; i >= 0; i--) {
                total += needs[i];
                unmet[i] = total;
                draft[i] = UNFILLED;
                hourPrices[i] = prices[Math.floorMod(firstHour + i, DAY)];
            }
        }

        private int cheapestUnfilled() {
            int cheapest = NONE;
            for (int i = 0; i < size; i++) {
                if (draft[i] == UNFILLED
                        && (cheapest == NONE || hourPrices[i] < hourPrices[cheapest])) {
                    cheapest = i;
                }
            }
            return cheapest;
        }

        private void fill(int i, int lines) {
            int most = lines;
            for (int k = 0; k <= i; k++) {
                most = Math.min(most, unmet[k]);
            }
            for (int k = 0; k <= i; k++) {
                unmet[k] -= most;
            }
            draft[i] = most;
        }

        private int keepDraft() {
            int sum = 0;
            for (int i = 0; i < size; i++) {
                kept[i] = draft[i];
                sum += draft[i] * hourPrices[i];
            }
            keptSize = size;
            return sum;
        }
    }

    /** Tries the rows of cabinets that differ from their wish, in their order, and keeps the best. */
    private static final class VanRound {
        /** What a cabinet has more than its wish (below 0: lacks). */
        final int[] surplus = new int[MOST_CABINETS];
        final boolean[] isVisited = new boolean[MOST_CABINETS];
        final int[] row = new int[MOST_CABINETS];
        final int[] kept = new int[MOST_CABINETS];
        int keptSize;
        int van;
        int stops;
        int shortest;

        void begin(int vanSize) {
            van = vanSize;
            stops = 0;
            shortest = IMPOSSIBLE;
        }

        void addSurplus(int cabinet, int more) {
            surplus[cabinet] = more;
            if (more != 0) {
                stops++;
            }
        }

        int keepShortest(Spots spots) {
            extend(spots, 0, 0, 0, 0, 0);
            return shortest;
        }

        private void extend(Spots spots, int depth, int x, int y, int load, int length) {
            // The way home is straight, and no stop on it makes it shorter.
            int atLeast = length + x + y;
            if (shortest != IMPOSSIBLE && atLeast >= shortest) {
                return;
            }
            if (depth >= stops) {
                keepRow(atLeast);
                return;
            }
            for (int c = 0; c < spots.size; c++) {
                int loadThen = load + surplus[c];
                if (surplus[c] != 0 && !isVisited[c] && isWithin(loadThen, 0, van)) {
                    isVisited[c] = true;
                    row[depth] = c;
                    int lengthThen = length + spots.distance(c, x, y);
                    extend(spots, depth + 1, spots.xs[c], spots.ys[c], loadThen, lengthThen);
                    isVisited[c] = false;
                }
            }
        }

        private void keepRow(int length) {
            shortest = length;
            keptSize = stops;
            for (int i = 0; i < stops; i++) {
                kept[i] = row[i];
            }
        }
    }

    private static final class NewPlaces {
        final Spots riders = new Spots(MOST_POINTS);
        final Spots sites = new Spots(MOST_PLACES);
        /** How far each rider has it to a cabinet. */
        final int[] cabinetWays = new int[MOST_POINTS];
        int kept;

        int keepBest(int k, Spots cabinetSpots) {
            measureCabinetWays(cabinetSpots);
            int best = NONE;
            int least = NONE;
            for (int bits = 0; bits < 1 << sites.size; bits++) {
                if (Integer.bitCount(bits) == k) {
                    int sum = sumOfWays(bits);
                    if (best == NONE || sum < least || sum == least && isFirstRow(bits, best)) {
                        best = bits;
                        least = sum;
                    }
                }
            }
            kept = best;
            return least;
        }

        /** Of two rows as long as each other the first one has the least place they don't share. */
        private static boolean isFirstRow(int bits, int others) {
            int unshared = bits ^ others;
            int leastUnshared = unshared & -unshared;
            return (bits & leastUnshared) != 0;
        }

        private void measureCabinetWays(Spots cabinetSpots) {
            for (int r = 0; r < riders.size; r++) {
                int way = FAR;
                for (int c = 0; c < cabinetSpots.size; c++) {
                    way = Math.min(way, cabinetSpots.distance(c, riders.xs[r], riders.ys[r]));
                }
                cabinetWays[r] = way;
            }
        }

        private int sumOfWays(int bits) {
            int sum = 0;
            for (int r = 0; r < riders.size; r++) {
                int way = cabinetWays[r];
                for (int s = 0; s < sites.size; s++) {
                    if ((bits >> s & 1) != 0) {
                        way = Math.min(way, sites.distance(s, riders.xs[r], riders.ys[r]));
                    }
                }
                sum += way;
            }
            return sum;
        }
    }
}

import java.util.Random;

/**
 * All promises over long runs of calls, right and wrong ones, each answer against the models'. A run
 * has as many calls as the document lets an object have.
 */
public final class LongRunTest {
    private static final int[] WILD = {Integer.MIN_VALUE, -2, -1, 30, 101, 1001, Integer.MAX_VALUE};

    private static final int CALLS = 512;

    private final Random random;
    private final SwapGo x = new SwapGo();
    private final Model model = new Model();
    private final PlanModel plans = new PlanModel(model);

    private LongRunTest(long seed) {
        random = new Random(seed);
    }

    public static void main(String[] args) {
        for (int seed = 0; seed < 1000; seed++) {
            LongRunTest run = new LongRunTest(seed);
            int made = seed % 8 == 0 ? run.goNearTheLastHour() : 0;
            for (int call = 0; call < CALLS - made; call++) {
                run.oneCall("seed " + seed + ", call " + call + ": ", call);
            }
        }
        Check.end("LongRunTest");
    }

    private int goNearTheLastHour() {
        for (int i = 1; i < 50; i++) {
            Check.due("hours near the last", x.run(200), model.run(200));
        }
        return 49;
    }

    private int any(int least, int most) {
        if (random.nextInt(60) == 0) {
            return WILD[random.nextInt(WILD.length)];
        }
        return least + random.nextInt(most - least + 1);
    }

    private void oneCall(String at, int call) {
        int kind = call < 40 ? random.nextInt(6) : 4 + random.nextInt(22);
        int a = any(0, 5);
        int p = any(0, Math.max(0, model.packs.size() - 1));
        int v = any(0, 100);
        switch (kind) {
            case 0:
                int cabinetY = any(0, 99);
                int slots = any(1, 8);
                int lines = any(0, 8);
                int need = any(0, 8);
                Check.due(at + "cabinet", x.cabinet(v, cabinetY, slots, lines, need),
                        model.cabinet(v, cabinetY, slots, lines, need));
                break;
            case 1: case 2: case 3: case 4:
                Check.due(at + "pack", x.pack(a, v), model.pack(a, v));
                break;
            case 5:
                settingOrPrice(at);
                break;
            case 6:
                boolean is = random.nextInt(3) == 0;
                Check.due(at + "sick", x.sick(p, is) ? 1 : 0, model.sick(p, is));
                break;
            case 7:
                Check.due(at + "take", x.take(a), model.take(a));
                break;
            case 8: case 9:
                Check.due(at + "swap", x.swap(a, p, v), model.swap(a, p, v));
                break;
            case 10: case 11:
                Check.due(at + "bring", x.bring(a, p, v), model.bring(a, p, v));
                break;
            case 12:
                Check.due(at + "move", x.move(p, a) ? 1 : 0, model.move(p, a));
                break;
            case 13:
                int hours = any(0, random.nextInt(20) == 0 ? 200 : 2);
                Check.due(at + "run", x.run(hours), model.run(hours));
                break;
            case 14: case 15: case 16: case 17: case 18: case 19:
                planCall(at, a);
                break;
            default:
                ask(at, a, p);
        }
    }

    private void planCall(String at, int a) {
        int small = any(0, 20);
        switch (random.nextInt(12)) {
            case 0: case 1:
                int v = random.nextBoolean() ? any(0, 20) : any(0, 3);
                Check.due(at + "need", x.need(v), plans.need(v));
                break;
            case 2:
                if (random.nextInt(4) == 0) {
                    Check.due(at + "clear", x.clear(), plans.clear());
                }
                break;
            case 3:
                Check.due(at + "plan " + small, x.plan(small), plans.plan(small));
                break;
            case 4:
                int i = any(0, plans.count(6));
                Check.due(at + "planned " + i, x.planned(i), plans.planned(i));
                break;
            case 5: case 6:
                int wish = random.nextBoolean() ? any(0, 8) : any(0, 3);
                Check.due(at + "wish", x.wish(a, wish) ? 1 : 0, plans.wish(a, wish));
                break;
            case 7:
                Check.due(at + "round", x.round(), plans.round());
                break;
            case 8:
                int stop = any(0, 6);
                Check.due(at + "stop " + stop, x.stop(stop), plans.stop(stop));
                break;
            case 9:
                int what = any(0, 1);
                int atX = any(0, 99);
                int atY = any(0, 99);
                Check.due(at + "point", x.point(what, atX, atY), plans.point(what, atX, atY));
                break;
            case 10:
                int k = any(0, plans.count(8) + 1);
                Check.due(at + "places " + k, x.places(k), plans.places(k));
                break;
            default:
                Check.due(at + "chosen", x.chosen(), plans.chosen());
        }
    }

    private void settingOrPrice(String at) {
        if (random.nextBoolean()) {
            int hour = any(0, 23);
            int price = any(0, 1000);
            Check.due(at + "price", x.price(hour, price) ? 1 : 0, model.price(hour, price));
            return;
        }
        int what = any(0, 4);
        int[] most = {400, 100, 1000, 100, 30};
        int v = any(0, what >= 0 && what <= 4 ? most[what] : 1);
        Check.due(at + "set", x.set(what, v), model.set(what, v));
    }

    private void ask(String at, int cabinet, int pack) {
        switch (random.nextInt(3)) {
            case 0:
                int what = any(0, 10);
                Check.due(at + "count " + what, x.count(what), plans.count(what));
                break;
            case 1:
                int ofWhat = any(0, 4);
                Check.due(at + "of " + pack + " " + ofWhat, Check.of(x, pack, ofWhat), model.of(pack, ofWhat));
                break;
            default:
                int inWhat = any(0, 5);
                Check.due(at + "in " + cabinet + " " + inWhat, x.in(cabinet, inWhat), model.in(cabinet, inWhat));
        }
    }
}

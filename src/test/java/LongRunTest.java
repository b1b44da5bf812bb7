import java.util.Random;

/** Promises 2 to 14 over long runs of calls, right and wrong ones, each answer against the model's. */
public final class LongRunTest {
    private static final int[] WILD = {Integer.MIN_VALUE, -2, -1, 30, 101, 1001, Integer.MAX_VALUE};

    /** What the model counts; the rest is of plans. */
    private static final int[] COUNTED = {0, 1, 2, 3, 4, 5, 9, 10, -1};

    private final Random random;
    private final SwapGo x = new SwapGo();
    private final Model model = new Model();

    private LongRunTest(long seed) {
        random = new Random(seed);
    }

    public static void main(String[] args) {
        for (int seed = 0; seed < 1000; seed++) {
            LongRunTest run = new LongRunTest(seed);
            for (int call = 0; call < 512; call++) {
                run.oneCall("seed " + seed + ", call " + call + ": ", call);
            }
        }
        Check.end("LongRunTest");
    }

    private int any(int least, int most) {
        if (random.nextInt(60) == 0) {
            return WILD[random.nextInt(WILD.length)];
        }
        return least + random.nextInt(most - least + 1);
    }

    private void oneCall(String at, int call) {
        int kind = call < 40 ? random.nextInt(6) : 4 + random.nextInt(16);
        int a = any(0, 5);
        int p = any(0, Math.max(0, model.packs.size() - 1));
        int v = any(0, 100);
        switch (kind) {
            case 0:
                int slots = any(1, 8);
                int lines = any(0, 8);
                int need = any(0, 8);
                Check.due(at + "cabinet", x.cabinet(v, v, slots, lines, need), model.cabinet(v, v, slots, lines, need));
                break;
            case 1: case 2: case 3: case 4:
                Check.due(at + "pack", x.pack(a, v), model.pack(a, v));
                break;
            case 5:
                settingOrPrice(at);
                break;
            case 6:
                boolean is = random.nextInt(3) == 0;
                Check.due(at + "sick", x.sick(p, is) ? 1 : 0, model.sick(p, is));
                break;
            case 7:
                Check.due(at + "take", x.take(a), model.take(a));
                break;
            case 8: case 9:
                Check.due(at + "swap", x.swap(a, p, v), model.swap(a, p, v));
                break;
            case 10: case 11:
                Check.due(at + "bring", x.bring(a, p, v), model.bring(a, p, v));
                break;
            case 12:
                Check.due(at + "move", x.move(p, a) ? 1 : 0, model.move(p, a));
                break;
            case 13:
                int hours = any(0, random.nextInt(20) == 0 ? 200 : 2);
                Check.due(at + "run", x.run(hours), model.run(hours));
                break;
            default:
                ask(at, a, p);
        }
    }

    private void settingOrPrice(String at) {
        if (random.nextBoolean()) {
            int hour = any(0, 23);
            int price = any(0, 1000);
            Check.due(at + "price", x.price(hour, price) ? 1 : 0, model.price(hour, price));
            return;
        }
        int what = any(0, 4);
        int[] most = {400, 100, 1000, 100, 30};
        int v = any(0, what >= 0 && what <= 4 ? most[what] : 1);
        Check.due(at + "set", x.set(what, v), model.set(what, v));
    }

    private void ask(String at, int cabinet, int pack) {
        switch (random.nextInt(3)) {
            case 0:
                int what = COUNTED[random.nextInt(COUNTED.length)];
                Check.due(at + "count " + what, x.count(what), model.count(what));
                break;
            case 1:
                int ofWhat = any(0, 4);
                Check.due(at + "of " + pack + " " + ofWhat, Check.of(x, pack, ofWhat), model.of(pack, ofWhat));
                break;
            default:
                int inWhat = any(0, 5);
                Check.due(at + "in " + cabinet + " " + inWhat, x.in(cabinet, inWhat), model.in(cabinet, inWhat));
        }
    }
}

import java.util.LinkedHashMap;
import java.util.Map;
import java.util.function.ToIntFunction;

/** Terms, 3: refused calls answer NONE, or false (0), and change nothing. */
public final class RefusedTest {
    public static void main(String[] args) {
        for (Map.Entry<String, ToIntFunction<SwapGo>> call : refused().entrySet()) {
            SwapGo x = busyTown();
            String before = Check.snapshot(x);
            int answer = call.getValue().applyAsInt(x);
            Check.due(call.getKey(), answer, call.getKey().endsWith("?") ? 0 : SwapGo.NONE);
            Check.due("after " + call.getKey(), Check.snapshot(x), before);
        }
        keptOnesStay();
        Check.end("RefusedTest");
    }

    /** Cabinet 1 is full, pack 0 is out, pack 2 is sick; a plan, a round and places are kept. */
    private static SwapGo busyTown() {
        SwapGo x = new SwapGo();
        x.cabinet(5, 5, 4, 1, 1);
        x.cabinet(9, 9, 1, 0, 1);
        x.pack(0, 90);
        x.pack(0, 85);
        x.pack(0, 85);
        x.pack(1, 30);
        x.take(0);
        x.sick(2, true);
        x.run(1);
        x.need(2);
        x.need(3);
        x.plan(4);
        x.wish(0, 1);
        x.round();
        x.point(0, 7, 7);
        x.point(1, 6, 6);
        x.point(1, 7, 7);
        x.places(1);
        return x;
    }

    private static Map<String, ToIntFunction<SwapGo>> refused() {
        Map<String, ToIntFunction<SwapGo>> calls = new LinkedHashMap<>();
        calls.put("2: cabinet", x -> x.cabinet(1, 100, 1, 1, 1));
        calls.put("3: pack in a full cabinet", x -> x.pack(1, 50));
        calls.put("3: pack with too much", x -> x.pack(0, 101));
        calls.put("4: set", x -> x.set(0, 0));
        calls.put("4: set what", x -> x.set(5, 5));
        calls.put("5: price?", x -> x.price(1, 1001) ? 1 : 0);
        calls.put("5: price of hour 24?", x -> x.price(24, 1) ? 1 : 0);
        calls.put("6: sick?", x -> x.sick(4, true) ? 1 : 0);
        calls.put("7: take", x -> x.take(1));
        calls.put("8: swap where none is ready", x -> x.swap(1, 0, 50));
        calls.put("8: swap with too much", x -> x.swap(0, 0, 91));
        calls.put("8: swap of one that is not out", x -> x.swap(0, 3, 1));
        calls.put("9: bring to a full cabinet", x -> x.bring(1, 0, 50));
        calls.put("9: bring with too much", x -> x.bring(0, 0, 91));
        calls.put("9: bring one that is not out", x -> x.bring(0, 3, 1));
        calls.put("10: move to a full cabinet?", x -> x.move(1, 1) ? 1 : 0);
        calls.put("10: move one that is out?", x -> x.move(0, 0) ? 1 : 0);
        calls.put("10: move where it is?", x -> x.move(3, 1) ? 1 : 0);
        calls.put("11: run", x -> x.run(201));
        calls.put("12: count", x -> x.count(10));
        calls.put("14: in", x -> x.in(2, 0));
        calls.put("15: need", x -> x.need(21));
        calls.put("17: plan", x -> x.plan(21));
        calls.put("19: wish?", x -> x.wish(0, 9) ? 1 : 0);
        calls.put("22: point", x -> x.point(0, 100, 1));
        calls.put("22: place", x -> x.point(1, 1, 100));
        calls.put("22: point of another kind", x -> x.point(2, 1, 1));
        calls.put("23: places", x -> x.places(3));
        return calls;
    }

    private static void keptOnesStay() {
        SwapGo x = busyTown();
        String before = Check.snapshot(x);
        Check.due("17: too few lines", x.plan(1), -2);
        Check.due("after a plan that cannot be", Check.snapshot(x), before);
        x.wish(0, 8);
        before = Check.snapshot(x);
        Check.due("20: too few packs", x.round(), -2);
        Check.due("after a round that cannot be", Check.snapshot(x), before);
    }
}

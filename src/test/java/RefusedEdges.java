import java.util.ArrayList;
import java.util.List;
import java.util.function.Supplier;
import java.util.function.ToIntFunction;

/**
 * Refused calls, and calls that only ask: each is made in a town that has a twin, and all that can be
 * found out of the two towns, by changing calls too, must be the same behind it.
 */
final class RefusedEdges {
    private static final int NONE = SwapGo.NONE;
    private static final int REFUSED = 0;

    /** A call with its answer that is due. */
    private record Call(String name, ToIntFunction<SwapGo> made, int due) {
    }

    private final List<Call> calls = new ArrayList<>();

    private RefusedEdges() {
    }

    static void ask() {
        Check.sentence("Terms", "Refused calls answer NONE, or false, and change nothing.");
        compare("new", SwapGo::new, inNewTown());
        compare("busy", RefusedEdges::busyTown, inBusyTown());
        compare("full", RefusedEdges::fullTown, inFullTown());
    }

    private static void compare(String name, Supplier<SwapGo> town, RefusedEdges refused) {
        String untouched = probe(town.get());
        for (Call call : refused.calls) {
            SwapGo x = town.get();
            Check.due(name + " town: " + call.name, call.made.applyAsInt(x), call.due);
            Check.due(name + " town behind " + call.name, probe(x), untouched);
        }
    }

    private void none(String name, ToIntFunction<SwapGo> made) {
        calls.add(new Call(name, made, NONE));
    }

    private void due(String name, int due, ToIntFunction<SwapGo> made) {
        calls.add(new Call(name, made, due));
    }

    /** All that can be found out of an object, the values that no call tells by making them work. */
    private static String probe(SwapGo x) {
        StringBuilder text = new StringBuilder(Check.snapshot(x));
        Check.row(text, "round, stops", 7, i -> i == 0 ? x.round() : x.stop(i - 1));
        Check.row(text, "plan, charges", 13, i -> i == 0 ? x.plan(20) : x.planned(i - 1));
        Check.row(text, "places, bits", 2 * x.count(8) + 2, i -> i % 2 == 0 ? x.places(i / 2) : x.chosen());
        Check.row(text, "hours", 3, i -> x.run(1));
        Check.row(text, "charges", x.count(1), p -> Check.of(x, p, 0));
        Check.row(text, "settings", 5, what -> x.set(what, Edge.FIRST_SETTING[what]));
        int hoursLeft = Math.min(23, 10000 - x.count(2));
        Check.row(text, "day", 2 * hoursLeft, i -> i % 2 == 0 ? x.run(1) : x.count(9));
        Check.row(text, "ready", x.count(1), p -> Check.of(x, p, 3));
        int cabinets = x.count(0);
        for (int c = 0; c < cabinets; c++) {
            int cabinet = c;
            Check.row(text, "in", 5, what -> x.in(cabinet, what));
            Check.row(text, "slots left", 2, i -> x.pack(cabinet, 50));
        }
        return text.toString();
    }

    private static RefusedEdges inNewTown() {
        RefusedEdges all = new RefusedEdges();
        all.none("pack", x -> x.pack(0, 50));
        all.due("sick", REFUSED, x -> x.sick(0, true) ? 1 : 0);
        all.none("take", x -> x.take(0));
        all.none("swap", x -> x.swap(0, 0, 0));
        all.none("bring", x -> x.bring(0, 0, 0));
        all.due("move", REFUSED, x -> x.move(0, 0) ? 1 : 0);
        all.due("of", Check.THROWN, x -> Check.of(x, 0, 0));
        all.none("in", x -> x.in(0, 0));
        all.none("planned", x -> x.planned(0));
        all.due("wish", REFUSED, x -> x.wish(0, 0) ? 1 : 0);
        all.none("stop", x -> x.stop(0));
        all.none("places", x -> x.places(0));
        all.none("places 1", x -> x.places(1));
        all.addWrongNumbers();
        return all;
    }

    /** Cabinet 1 is full, 2 is empty; pack 0 is out, pack 2 is sick; a plan, a round and places are kept. */
    private static SwapGo busyTown() {
        SwapGo x = new SwapGo();
        x.cabinet(5, 5, 5, 2, 2);
        x.cabinet(9, 9, 1, 1, 1);
        x.cabinet(3, 8, 2, 0, 0);
        Edge.packs(x, 0, 90, 85, 84, 40, 30);
        Edge.packs(x, 1, 20);
        x.take(0);
        x.sick(2, true);
        for (int h = 0; h < 24; h++) {
            x.price(h, 7 * h);
        }
        for (int what = 0; what < 5; what++) {
            x.set(what, new int[] {300, 79, 20, 9, 8}[what]);
        }
        x.run(1);
        Edge.needs(x, 2, 3);
        x.plan(4);
        x.wish(0, 1);
        x.wish(2, 2);
        x.round();
        x.point(0, 7, 7);
        x.point(0, 50, 20);
        x.point(1, 6, 6);
        x.point(1, 50, 22);
        x.places(1);
        return x;
    }

    private static RefusedEdges inBusyTown() {
        RefusedEdges all = new RefusedEdges();
        all.addWrongNumbers();
        all.addWrongCabinets();
        all.addWrongPacks();
        all.addWrongCharges();
        all.none("pack, no slot left", x -> x.pack(1, 50));
        all.none("take, none is ready", x -> x.take(1));
        all.none("take, none is there", x -> x.take(2));
        all.none("swap, none is ready", x -> x.swap(1, 0, 50));
        all.none("swap, none is there", x -> x.swap(2, 0, 50));
        all.none("swap, it is not out", x -> x.swap(0, 1, 50));
        all.none("bring, no slot left", x -> x.bring(1, 0, 50));
        all.none("bring, it is not out", x -> x.bring(2, 1, 50));
        all.due("move, it is out", REFUSED, x -> x.move(0, 2) ? 1 : 0);
        all.due("move, no slot left", REFUSED, x -> x.move(1, 1) ? 1 : 0);
        all.due("move, there already", REFUSED, x -> x.move(1, 0) ? 1 : 0);
        all.due("plan, there is none", -2, x -> x.plan(2));
        for (int i : Edge.outside(0, 1)) {
            all.none("planned " + i, x -> x.planned(i));
            all.none("stop " + i, x -> x.stop(i == 2 ? 3 : i));
        }
        for (int k : Edge.outside(0, 2)) {
            all.none("places " + k, x -> x.places(k));
        }
        return all;
    }

    private void addWrongNumbers() {
        for (int v : Edge.outside(0, 99)) {
            none("cabinet, x " + v, x -> x.cabinet(v, 5, 1, 1, 1));
            none("cabinet, y " + v, x -> x.cabinet(5, v, 1, 1, 1));
            none("point, x " + v, x -> x.point(0, v, 5));
            none("point, y " + v, x -> x.point(0, 5, v));
            none("place, x " + v, x -> x.point(1, v, 5));
            none("place, y " + v, x -> x.point(1, 5, v));
        }
        for (int v : Edge.outside(0, 8)) {
            none("cabinet, slots " + v, x -> x.cabinet(5, 5, v == -1 ? 0 : v, 1, 1));
            none("cabinet, lines " + v, x -> x.cabinet(5, 5, 1, v, 1));
            none("cabinet, need " + v, x -> x.cabinet(5, 5, 1, 1, v));
        }
        for (int what = 0; what < 5; what++) {
            int setting = what;
            for (int v : Edge.outside(Edge.LEAST_SETTING[what], Edge.MOST_SETTING[what])) {
                none("set " + what + " to " + v, x -> x.set(setting, v));
            }
        }
        for (int v : Edge.outside(0, 23)) {
            due("price of " + v, REFUSED, x -> x.price(v, 5) ? 1 : 0);
        }
        for (int v : Edge.outside(0, 1000)) {
            due("price, " + v, REFUSED, x -> x.price(2, v) ? 1 : 0);
        }
        for (int v : Edge.outside(0, 20)) {
            none("need " + v, x -> x.need(v));
            none("plan " + v, x -> x.plan(v));
        }
        for (int v : Edge.outside(0, 200)) {
            none("run " + v, x -> x.run(v));
        }
        addWrongWhats();
    }

    private void addWrongWhats() {
        for (int v : Edge.outside(0, 4)) {
            none("set what " + v, x -> x.set(v, 20));
            none("in, what " + v, x -> x.in(0, v));
        }
        for (int v : Edge.outside(0, 9)) {
            none("count " + v, x -> x.count(v));
        }
        for (int v : Edge.outside(0, 3)) {
            due("of, what " + v, Check.THROWN, x -> Check.of(x, 0, v));
        }
        for (int v : Edge.outside(0, 1)) {
            none("point, what " + v, x -> x.point(v, 5, 5));
        }
    }

    private void addWrongCabinets() {
        for (int c : Edge.outside(0, 2)) {
            none("pack in " + c, x -> x.pack(c, 50));
            none("take of " + c, x -> x.take(c));
            none("swap in " + c, x -> x.swap(c, 0, 50));
            none("bring to " + c, x -> x.bring(c, 0, 50));
            due("move to " + c, REFUSED, x -> x.move(1, c) ? 1 : 0);
            none("in " + c, x -> x.in(c, 0));
            due("wish of " + c, REFUSED, x -> x.wish(c, 5) ? 1 : 0);
        }
        for (int v : Edge.outside(0, 8)) {
            due("wish " + v, REFUSED, x -> x.wish(0, v) ? 1 : 0);
        }
    }

    private void addWrongPacks() {
        for (int p : Edge.outside(0, 5)) {
            due("sick " + p, REFUSED, x -> x.sick(p, true) ? 1 : 0);
            due("well " + p, REFUSED, x -> x.sick(p, false) ? 1 : 0);
            none("swap " + p, x -> x.swap(0, p, 0));
            none("bring " + p, x -> x.bring(0, p, 0));
            due("move " + p, REFUSED, x -> x.move(p, 2) ? 1 : 0);
            due("of " + p, Check.THROWN, x -> Check.of(x, p, 0));
        }
    }

    private void addWrongCharges() {
        for (int charge : Edge.outside(0, 100)) {
            none("pack with " + charge, x -> x.pack(2, charge));
        }
        for (int charge : Edge.outside(0, 90)) {
            none("swap with " + charge, x -> x.swap(0, 0, charge));
            none("bring with " + charge, x -> x.bring(0, 0, charge));
        }
    }

    /** As much of all as there may be, in the last hour but one. */
    private static SwapGo fullTown() {
        SwapGo x = new SwapGo();
        for (int c = 0; c < 6; c++) {
            x.cabinet(10 * c, 7, 8, c, c);
            x.wish(c, 5);
        }
        Edge.runTo(x, 9998);
        for (int p = 0; p < 30; p++) {
            x.pack(p / 5, 3 * p);
        }
        for (int i = 0; i < 12; i++) {
            x.need(i);
            x.point(0, 8 * i, 90 - i);
        }
        for (int i = 0; i < 8; i++) {
            x.point(1, 12 * i, 80 + i);
        }
        x.plan(11);
        x.places(3);
        x.round();
        x.wish(0, 8);
        x.run(1);
        return x;
    }

    private static RefusedEdges inFullTown() {
        RefusedEdges all = new RefusedEdges();
        all.none("a seventh cabinet", x -> x.cabinet(5, 5, 8, 8, 8));
        all.none("a thirty-first pack", x -> x.pack(0, 50));
        all.none("a thirteenth need", x -> x.need(1));
        all.none("a thirteenth point", x -> x.point(0, 5, 5));
        all.none("a ninth place", x -> x.point(1, 5, 5));
        all.none("an hour above 10000", x -> x.run(2));
        all.none("hours above 10000", x -> x.run(200));
        all.due("no round can be", -2, SwapGo::round);
        all.due("no plan can be", -2, x -> x.plan(5));
        all.none("nine places", x -> x.places(9));
        all.none("a thirteenth hour", x -> x.planned(12));
        all.none("a seventh stop", x -> x.stop(6));
        all.none("a seventh cabinet asked", x -> x.in(6, 0));
        all.due("a thirty-first pack asked", Check.THROWN, x -> Check.of(x, 30, 0));
        all.due("a thirty-first pack is sick", REFUSED, x -> x.sick(30, true) ? 1 : 0);
        all.due("a seventh cabinet wished", REFUSED, x -> x.wish(6, 1) ? 1 : 0);
        all.due("a seventh cabinet moved to", REFUSED, x -> x.move(0, 6) ? 1 : 0);
        all.none("all are in", x -> x.bring(0, 29, 0));
        return all;
    }
}

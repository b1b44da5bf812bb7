/** Promises 7 to 10: packs that are given, swapped, brought and moved. */
public final class RiderTest {
    private static final int[] WILD = {Integer.MIN_VALUE, -1, Integer.MAX_VALUE};

    public static void main(String[] args) {
        taken();
        givenOfEqualCharge();
        swapped();
        swapGivesOneThatWasThere();
        brought();
        moved();
        Check.end("RiderTest");
    }

    private static void taken() {
        SwapGo x = new SwapGo();
        Check.due("7: no cabinet", x.take(0), SwapGo.NONE);
        x.cabinet(0, 0, 8, 0, 0);
        x.cabinet(0, 0, 8, 0, 0);
        Check.due("7: empty", x.take(0), SwapGo.NONE);
        x.pack(0, 79);
        x.pack(0, 80);
        x.pack(1, 100);
        x.pack(0, 95);
        x.pack(0, 95);
        Check.due("7: the greatest charge, the less number", x.take(0), 3);
        Check.due("7: it is out", Check.of(x, 3, 2), SwapGo.NONE);
        Check.due("7: one less is there", x.in(0, 0), 3);
        Check.due("7: the next", x.take(0), 4);
        Check.due("7: the last that is ready", x.take(0), 1);
        Check.due("7: none is ready", x.take(0), SwapGo.NONE);
        Check.due("7: one that is not stays", x.in(0, 0), 1);
        Check.due("7: of the other cabinet", x.take(1), 2);
        Check.due("7: four are out", x.count(3), 4);
        for (int wild : WILD) {
            Check.due("7: wild", x.take(wild), SwapGo.NONE);
        }
    }

    private static void givenOfEqualCharge() {
        SwapGo x = new SwapGo();
        x.cabinet(0, 0, 8, 8, 0);
        x.pack(0, 90);
        x.pack(0, 95);
        x.pack(0, 95);
        x.run(1);
        Check.due("7: less age of equal charges, then the less number", x.take(0), 1);
        Check.due("7: then the next number", x.take(0), 2);
        Check.due("7: then the one of more age", x.take(0), 0);
    }

    private static void swapped() {
        SwapGo x = new SwapGo();
        x.cabinet(0, 0, 2, 0, 0);
        x.cabinet(0, 0, 1, 0, 0);
        x.pack(0, 90);
        x.pack(0, 85);
        x.pack(1, 20);
        Check.due("8: taken", x.take(0), 0);
        x.pack(0, 81);
        Check.due("8: more charge than it had", x.swap(0, 0, 91), SwapGo.NONE);
        for (int wild : WILD) {
            Check.due("8: wild cabinet", x.swap(wild, 0, 10), SwapGo.NONE);
            Check.due("8: wild pack", x.swap(0, wild, 10), SwapGo.NONE);
            Check.due("8: wild charge", x.swap(0, 0, wild), SwapGo.NONE);
        }
        Check.due("8: no such cabinet", x.swap(2, 0, 10), SwapGo.NONE);
        Check.due("8: no such pack", x.swap(0, 4, 10), SwapGo.NONE);
        Check.due("8: not out", x.swap(0, 2, 10), SwapGo.NONE);
        Check.due("8: none is ready", x.swap(1, 0, 10), SwapGo.NONE);
        Check.due("8: still out", Check.of(x, 0, 2), SwapGo.NONE);
        Check.due("8: with what it had", Check.of(x, 0, 0), 90);
        Check.due("8: all that it had, into a full cabinet", x.swap(0, 0, 90), 1);
        Check.due("8: it is there", Check.of(x, 0, 2), 0);
        Check.due("8: the other is out", Check.of(x, 1, 2), SwapGo.NONE);
        Check.due("8: with no charge left", x.swap(0, 1, 0), 0);
        Check.due("8: its charge", Check.of(x, 1, 0), 0);
        Check.due("8: as many as before", x.in(0, 0), 2);
    }

    private static void swapGivesOneThatWasThere() {
        SwapGo x = new SwapGo();
        x.cabinet(0, 0, 8, 0, 0);
        x.pack(0, 100);
        x.pack(0, 80);
        x.take(0);
        Check.due("8: one of those there ahead of it", x.swap(0, 0, 100), 1);
        x.sick(0, true);
        Check.due("8: a sick one is not given", x.swap(0, 1, 50), SwapGo.NONE);
    }

    private static void brought() {
        SwapGo x = new SwapGo();
        x.cabinet(0, 0, 4, 0, 0);
        x.cabinet(0, 0, 1, 0, 0);
        x.pack(0, 90);
        x.pack(0, 85);
        x.pack(1, 20);
        x.take(0);
        x.take(0);
        Check.due("9: more charge than it had", x.bring(0, 0, 91), SwapGo.NONE);
        for (int wild : WILD) {
            Check.due("9: wild cabinet", x.bring(wild, 0, 10), SwapGo.NONE);
            Check.due("9: wild pack", x.bring(0, wild, 10), SwapGo.NONE);
            Check.due("9: wild charge", x.bring(0, 0, wild), SwapGo.NONE);
        }
        Check.due("9: no such cabinet", x.bring(2, 0, 10), SwapGo.NONE);
        Check.due("9: no such pack", x.bring(0, 3, 10), SwapGo.NONE);
        Check.due("9: not out", x.bring(0, 2, 10), SwapGo.NONE);
        Check.due("9: no slot left", x.bring(1, 0, 10), SwapGo.NONE);
        Check.due("9: still out", x.count(3), 2);
        Check.due("9: all that it had, though none is ready", x.bring(0, 0, 90), 1);
        Check.due("9: with none left", x.bring(0, 1, 0), 2);
        Check.due("9: its charge", Check.of(x, 1, 0), 0);
        Check.due("9: its cabinet", Check.of(x, 1, 2), 0);
        Check.due("9: none is out", x.count(3), 0);
        Check.due("9: not out any more", x.bring(0, 1, 0), SwapGo.NONE);
    }

    private static void moved() {
        SwapGo x = new SwapGo();
        x.cabinet(0, 0, 4, 0, 0);
        x.cabinet(0, 0, 1, 0, 0);
        x.pack(0, 90);
        x.pack(0, 50);
        x.pack(0, 40);
        x.take(0);
        Check.due("10: out", x.move(0, 1), false);
        Check.due("10: there already", x.move(1, 0), false);
        Check.due("10: no such pack", x.move(3, 1), false);
        Check.due("10: no such cabinet", x.move(1, 2), false);
        for (int wild : WILD) {
            Check.due("10: wild pack", x.move(wild, 1), false);
            Check.due("10: wild cabinet", x.move(1, wild), false);
        }
        Check.due("10: it goes", x.move(1, 1), true);
        Check.due("10: it is there", Check.of(x, 1, 2), 1);
        Check.due("10: its charge is the same", Check.of(x, 1, 0), 50);
        Check.due("10: gone here", x.in(0, 0), 1);
        Check.due("10: no slot left", x.move(2, 1), false);
        Check.due("10: back", x.move(1, 0), true);
        Check.due("10: a slot is left then", x.move(2, 1), true);
    }
}

/** The second of the terms: which pack is given, and what an hour does, one test for each sentence. */
final class Term2Edges {
    private Term2Edges() {
    }

    static void ask() {
        given();
        anHour();
        dearHour();
        eachCharge();
    }

    private static void given() {
        Check.sentence("Terms", "GIVEN: of the READY PACKS of a CABINET the one with the greatest CHARGE;"
                + " of equal ones the less AGE, then the less number.");
        givenInOrder("the greatest charge, whatever its age and number", new int[] {0, 5, 50}, new int[] {90, 91, 92},
                2, 1, 0);
        givenInOrder("the greatest charge has the least number too", new int[] {50, 5, 0}, new int[] {92, 91, 90},
                0, 1, 2);
        givenInOrder("less age of equal charges", new int[] {7, 6, 5}, new int[] {90, 90, 90}, 2, 1, 0);
        givenInOrder("less age, and less number", new int[] {5, 6, 7}, new int[] {90, 90, 90}, 0, 1, 2);
        givenInOrder("less number of equal ages", new int[] {6, 6, 6}, new int[] {90, 90, 90}, 0, 1, 2);
        givenInOrder("all of it", new int[] {9, 9, 4, 0, 4}, new int[] {95, 90, 90, 85, 90}, 0, 2, 4, 1, 3);
        givenInOrder("not ready: too little charge", new int[] {0, 0}, new int[] {79, 80}, 1);
        givenInOrder("none is ready", new int[] {0, 0}, new int[] {79, 0});
        givenInOrder("none is there", new int[0], new int[0]);
        otherReasons();
    }

    private static void givenInOrder(String what, int[] ages, int[] charges, int... due) {
        SwapGo x = Edge.workshop(8, 0, 0);
        int[] made = new int[ages.length];
        for (int p = 0; p < ages.length; p++) {
            made[p] = Edge.aged(x, ages[p]);
        }
        for (int p = 0; p < ages.length; p++) {
            x.bring(1, made[p], charges[p]);
        }
        for (int p : due) {
            Check.due(what + ", would be given", x.in(1, 2), p);
            Check.due(what + ", is given", x.take(1), p);
        }
        Check.due(what + ", none would be left", x.in(1, 2), SwapGo.NONE);
        Check.due(what + ", none is left", x.take(1), SwapGo.NONE);
    }

    private static void otherReasons() {
        SwapGo x = Edge.workshop(8, 0, 0);
        int old = Edge.aged(x, 30);
        int young = Edge.aged(x, 29);
        x.bring(1, old, 100);
        x.bring(1, young, 90);
        x.pack(1, 95);
        x.pack(0, 100);
        x.set(Edge.LIFE, 30);
        x.sick(2, true);
        Check.due("not the old one, the sick one, the one elsewhere", x.in(1, 2), young);
        Check.due("the one elsewhere is given there", x.in(0, 2), 3);
    }

    private static void anHour() {
        Check.sentence("Terms", "AN HOUR, CABINET by CABINET: as many PACKS as it has LINES, of those in it that are"
                + " not SICK, have AGE below LIFE and CHARGE below 100: the greatest CHARGE first, of equal ones"
                + " the less AGE, then the less number.");
        charged("the greatest charge, whatever its age and number", 1, new int[] {0, 5, 50}, new int[] {10, 11, 12}, 2);
        charged("the greatest charge, with the least number", 1, new int[] {50, 5, 0}, new int[] {12, 11, 10}, 0);
        charged("less age of equal charges", 1, new int[] {7, 6, 5}, new int[] {10, 10, 10}, 2);
        charged("less age, and less number", 1, new int[] {5, 6, 7}, new int[] {10, 10, 10}, 0);
        charged("less number of equal ages", 1, new int[] {6, 6, 6}, new int[] {10, 10, 10}, 0);
        charged("two lines", 2, new int[] {7, 6, 5}, new int[] {10, 10, 10}, 2, 1);
        charged("three lines of five", 3, new int[] {9, 9, 4, 0, 4}, new int[] {15, 10, 10, 5, 10}, 0, 2, 4);
        charged("no lines", 0, new int[] {0, 0}, new int[] {10, 10});
        charged("as many lines as packs", 2, new int[] {0, 0}, new int[] {10, 20}, 0, 1);
        charged("more lines than packs, each once", 8, new int[] {0, 0}, new int[] {10, 20}, 0, 1);
        charged("a full one needs no line", 1, new int[] {0, 0}, new int[] {100, 20}, 1);
        charged("one of 99 does", 1, new int[] {0, 0}, new int[] {99, 20}, 0);
        charged("one of 0 is charged too", 1, new int[] {0}, new int[] {0}, 0);
        charged("all are full", 8, new int[] {0, 0}, new int[] {100, 100});
        leftOut();
        cabinetByCabinet();
    }

    private static void charged(String what, int lines, int[] ages, int[] charges, int... due) {
        SwapGo x = Edge.workshop(8, lines, 0);
        int[] after = charges.clone();
        for (int age : ages) {
            Edge.aged(x, age);
        }
        for (int p = 0; p < ages.length; p++) {
            x.bring(1, p, charges[p]);
        }
        for (int p : due) {
            after[p]++;
        }
        x.set(Edge.RATE, 1);
        x.run(1);
        Check.due(what, Edge.charges(x), after);
    }

    private static void leftOut() {
        SwapGo x = Edge.workshop(8, 2, 0);
        for (int age : new int[] {31, 30, 29, 0, 0, 0}) {
            Edge.aged(x, age);
        }
        for (int p = 0; p < 5; p++) {
            x.bring(1, p, 90 - 10 * p);
        }
        x.sick(3, true);
        x.set(Edge.LIFE, 30);
        x.set(Edge.RATE, 5);
        x.run(1);
        Check.due("neither old ones, nor sick ones, nor one that is out", Edge.charges(x), 90, 80, 75, 60, 55, 100);
        x.run(1);
        Check.due("one that grew old is left out then", Edge.charges(x), 90, 80, 75, 60, 60, 100);
        x.set(Edge.LIFE, 35);
        x.sick(3, false);
        x.run(1);
        Check.due("longer lives, and a well one", Edge.charges(x), 95, 85, 75, 60, 60, 100);
    }

    private static void cabinetByCabinet() {
        SwapGo x = new SwapGo();
        for (int c = 0; c < 6; c++) {
            x.cabinet(0, 0, 3, c % 3, 0);
            Edge.packs(x, c, 10, 20, 30);
        }
        x.run(1);
        Check.due("each has its own lines", Edge.charges(x), 10, 20, 30, 10, 20, 55, 10, 45, 55,
                10, 20, 30, 10, 20, 55, 10, 45, 55);
        x.run(1);
        Check.due("the next hour", Edge.charges(x), 10, 20, 30, 10, 20, 80, 10, 70, 80,
                10, 20, 30, 10, 20, 80, 10, 70, 80);
    }

    private static void dearHour() {
        Check.sentence("Terms", "While PRICE is above CAP, PACKS are charged only as long as there are fewer than NEED"
                + " that are READY (asked ahead of each one).");
        dear("no need", 8, 0, new int[] {70, 60}, 70, 60);
        dear("as many as needed are ready", 8, 2, new int[] {80, 90, 70, 60}, 80, 90, 70, 60);
        dear("more than needed are ready", 8, 1, new int[] {80, 90, 70, 60}, 80, 90, 70, 60);
        dear("one fewer: the first charge makes it ready", 8, 1, new int[] {70, 60}, 95, 60);
        dear("two fewer", 8, 2, new int[] {70, 60, 60}, 95, 85, 60);
        dear("a ready one takes a charge, and is not one more", 8, 2, new int[] {80, 60, 60}, 100, 85, 60);
        dear("one that is not ready by its charge", 8, 1, new int[] {54, 53, 40}, 79, 78, 65);
        dear("one that is just ready by its charge", 8, 1, new int[] {55, 53, 40}, 80, 53, 40);
        dear("not more than the lines", 1, 8, new int[] {70, 60, 50}, 95, 60, 50);
        dear("full ones are ready and not charged", 8, 2, new int[] {100, 70, 60}, 100, 95, 60);
        dear("fewer packs than needed", 8, 8, new int[] {70, 60}, 95, 85);
        dear("no lines", 0, 8, new int[] {70, 60}, 70, 60);
        justAtCap();
        dearElsewhere();
        dearAndUnfit();
        lifeEnds();
    }

    private static void dear(String what, int lines, int need, int[] charges, int... due) {
        SwapGo x = Edge.town(8, lines, need);
        Edge.packs(x, 0, charges);
        x.set(Edge.CAP, 9);
        x.run(1);
        Check.due(what, Edge.charges(x), due);
    }

    private static void justAtCap() {
        SwapGo x = Edge.town(8, 8, 1);
        Edge.packs(x, 0, 90, 60, 10);
        x.set(Edge.CAP, 300);
        Edge.prices(x, 301, 300, 299, 301);
        x.run(1);
        Check.due("above CAP", Edge.charges(x), 90, 60, 10);
        x.run(1);
        Check.due("just CAP", Edge.charges(x), 100, 85, 35);
        x.run(1);
        Check.due("below CAP", Edge.charges(x), 100, 100, 60);
        x.run(1);
        Check.due("above CAP again", Edge.charges(x), 100, 100, 60);
        x.take(0);
        x.take(0);
        Edge.prices(x, 10, 10, 10, 10, 301);
        x.run(1);
        Check.due("none is there that is ready", Edge.charges(x), 100, 100, 85);
    }

    private static void dearElsewhere() {
        SwapGo x = Edge.town(8, 8, 1);
        x.cabinet(0, 0, 8, 8, 2);
        Edge.packs(x, 0, 90, 90, 50);
        Edge.packs(x, 1, 70, 60, 50);
        x.set(Edge.CAP, 0);
        x.run(1);
        Check.due("ready ones elsewhere do not count", Edge.charges(x), 90, 90, 50, 95, 85, 50);
    }

    private static void dearAndUnfit() {
        SwapGo x = Edge.workshop(8, 8, 1);
        Edge.aged(x, 50);
        x.bring(1, 0, 100);
        Edge.packs(x, 1, 90, 40, 30);
        x.sick(1, true);
        x.set(Edge.LIFE, 50);
        x.set(Edge.CAP, 0);
        x.set(Edge.RATE, 45);
        x.run(1);
        Check.due("old and sick ones are not ready", Edge.charges(x), 100, 90, 85, 30);
    }

    private static void lifeEnds() {
        SwapGo x = Edge.town(8, 8, 1);
        Edge.packs(x, 0, 76, 74, 40, 30);
        x.set(Edge.CAP, 0);
        x.set(Edge.LIFE, 24);
        x.run(1);
        Check.due("one that has its life behind it is not ready", Edge.charges(x), 100, 99, 65, 55);
        SwapGo y = Edge.town(8, 8, 1);
        Edge.packs(y, 0, 77, 74, 40);
        y.set(Edge.CAP, 0);
        y.set(Edge.LIFE, 24);
        y.run(1);
        Check.due("one that has some left is", Edge.charges(y), 100, 74, 40);
        SwapGo z = Edge.town(8, 8, 1);
        Edge.packs(z, 0, 90, 60, 30);
        z.set(Edge.CAP, 0);
        z.set(Edge.LIFE, 5);
        z.run(1);
        Check.due("as many as needed are ready, though not for long", Edge.charges(z), 90, 60, 30);
    }

    private static void eachCharge() {
        Check.sentence("Terms", "Each is charged by RATE, to 100 at most; AGE is so much more;"
                + " the CABINET's BILL is PRICE more for each.");
        SwapGo x = Edge.town(8, 8, 0);
        Edge.packs(x, 0, 0, 50, 74, 75, 76, 99, 100);
        x.run(1);
        Check.due("by RATE, to 100", Edge.charges(x), 25, 75, 99, 100, 100, 100, 100);
        Check.due("age by what they took", Edge.ages(x), 25, 25, 25, 25, 24, 1, 0);
        Check.due("six at 10", x.in(0, 3), 60);
        x.price(1, 1000);
        x.set(Edge.RATE, 1);
        x.run(1);
        Check.due("by another RATE", Edge.charges(x), 26, 76, 100, 100, 100, 100, 100);
        Check.due("age on top", Edge.ages(x), 26, 26, 26, 25, 24, 1, 0);
        Check.due("three at 1000", x.in(0, 3), 3060);
        x.price(2, 0);
        x.set(Edge.RATE, 100);
        x.run(1);
        Check.due("two at 0", x.in(0, 3), 3060);
        Check.due("age of all that they took", Edge.ages(x), 100, 50, 26, 25, 24, 1, 0);
        x.run(200);
        Check.due("none to charge, nothing to pay", x.in(0, 3), 3060);
        beyondLife();
        billOfEach();
    }

    private static void beyondLife() {
        SwapGo x = Edge.town(1, 1, 0);
        x.pack(0, 10);
        x.set(Edge.LIFE, 1);
        x.run(1);
        Check.due("a whole charge, though life ends in it", Edge.charges(x), 35);
        Check.due("beyond its life", Edge.ages(x), 25);
        x.run(1);
        Check.due("none any more", Edge.charges(x), 35);
        Check.due("one is paid", x.in(0, 3), 10);
        x.set(Edge.LIFE, 2000);
        x.run(3);
        x.take(0);
        x.bring(0, 0, 40);
        Check.due("it keeps its age", Edge.ages(x), 90);
        x.run(1);
        Check.due("and grows on", Edge.ages(x), 115);
    }

    private static void billOfEach() {
        SwapGo x = Edge.town(4, 1, 0);
        x.cabinet(0, 0, 4, 2, 0);
        x.cabinet(0, 0, 4, 0, 0);
        for (int c = 0; c < 3; c++) {
            Edge.packs(x, c, 0, 0);
        }
        Edge.prices(x, 3, 40);
        x.run(2);
        Check.due("one each hour", x.in(0, 3), 43);
        Check.due("two each hour", x.in(1, 3), 86);
        Check.due("none", x.in(2, 3), 0);
        Check.due("a pack goes", x.move(2, 2), true);
        Check.due("the bill does not", x.in(1, 3), 86);
        Check.due("the bill did not", x.in(2, 3), 0);
        SwapGo y = Edge.town(1, 1, 0);
        y.pack(0, 50);
        y.set(Edge.CAP, 0);
        y.run(1);
        Check.due("none charged, nothing billed", y.in(0, 3), 0);
    }
}

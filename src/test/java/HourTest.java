/** Promise 11: hours that go. */
public final class HourTest {
    public static void main(String[] args) {
        hours();
        lastHour();
        order();
        fitOnes();
        dearHours();
        dearHourEndsALife();
        pricesOfHours();
        Check.end("HourTest");
    }

    private static void hours() {
        SwapGo x = new SwapGo();
        x.cabinet(0, 0, 8, 1, 0);
        x.pack(0, 0);
        Check.due("11: no hours", x.run(0), 0);
        Check.due("11: nothing is charged", Check.of(x, 0, 0), 0);
        for (int wild : new int[] {Integer.MIN_VALUE, -1, 201, Integer.MAX_VALUE}) {
            Check.due("11: run " + wild, x.run(wild), SwapGo.NONE);
        }
        Check.due("11: nothing has gone", x.count(2), 0);
        Check.due("11: two hours", x.run(2), 2);
        Check.due("11: charged twice", Check.of(x, 0, 0), 50);
        Check.due("11: two hundred", x.run(200), 202);
        Check.due("11: full", Check.of(x, 0, 0), 100);
        Check.due("11: as old as it took", Check.of(x, 0, 1), 100);
        Check.due("11: billed for four", x.in(0, 3), 40);
    }

    private static void lastHour() {
        SwapGo x = new SwapGo();
        for (int i = 1; i <= 49; i++) {
            Check.due("11: hours", x.run(200), i * 200);
        }
        Check.due("11: 9999", x.run(199), 9999);
        Check.due("11: above 10000", x.run(2), SwapGo.NONE);
        Check.due("11: none of them went", x.count(2), 9999);
        Check.due("11: 10000", x.run(1), 10000);
        Check.due("11: one more", x.run(1), SwapGo.NONE);
        Check.due("11: none more", x.run(0), 10000);
    }

    private static void order() {
        SwapGo x = new SwapGo();
        x.cabinet(0, 0, 8, 2, 0);
        x.cabinet(0, 0, 8, 0, 0);
        for (int charge : new int[] {10, 60, 60, 100, 60}) {
            x.pack(0, charge);
        }
        x.pack(1, 50);
        x.run(1);
        charges("11: the greatest charges, the less numbers", x, 10, 85, 85, 100, 60, 50);
        x.run(1);
        charges("11: to 100 at most", x, 10, 100, 100, 100, 60, 50);
        Check.due("11: age by what it took", Check.of(x, 1, 1), 40);
        x.run(1);
        charges("11: then the others", x, 35, 100, 100, 100, 85, 50);
        Check.due("11: bill", x.in(0, 3), 60);
        Check.due("11: no lines, no bill", x.in(1, 3), 0);
        lessAge();
    }

    private static void lessAge() {
        SwapGo x = new SwapGo();
        x.cabinet(0, 0, 8, 1, 0);
        x.pack(0, 35);
        x.run(1);
        x.pack(0, 60);
        x.run(1);
        charges("11: less age of equal charges", x, 60, 85);
    }

    private static void fitOnes() {
        SwapGo x = new SwapGo();
        x.cabinet(0, 0, 8, 8, 0);
        x.pack(0, 10);
        x.pack(0, 20);
        x.sick(0, true);
        x.set(0, 26);
        x.set(3, 13);
        x.run(1);
        charges("11: a sick one is not charged", x, 10, 33);
        x.run(1);
        charges("11: age below life", x, 10, 46);
        x.run(5);
        charges("11: age of life", x, 10, 46);
        Check.due("11: bill", x.in(0, 3), 20);
    }

    private static void dearHours() {
        SwapGo x = new SwapGo();
        x.cabinet(0, 0, 8, 3, 2);
        x.cabinet(0, 0, 8, 3, 0);
        x.pack(0, 70);
        x.pack(0, 60);
        x.pack(0, 60);
        x.pack(0, 40);
        x.pack(1, 70);
        x.set(2, 9);
        x.run(1);
        charges("11: as long as fewer than needed are ready", x, 95, 85, 60, 40, 70);
        x.run(1);
        charges("11: as many as needed are ready", x, 95, 85, 60, 40, 70);
        x.sick(0, true);
        x.run(1);
        charges("11: one fewer is ready", x, 95, 100, 85, 40, 70);
        x.set(2, 10);
        x.run(1);
        charges("11: a price of just CAP", x, 95, 100, 100, 65, 95);
        Check.due("11: six charges here", x.in(0, 3), 60);
        Check.due("11: one there", x.in(1, 3), 10);
    }

    private static void dearHourEndsALife() {
        SwapGo x = new SwapGo();
        x.cabinet(0, 0, 8, 3, 2);
        x.pack(0, 95);
        x.pack(0, 70);
        x.pack(0, 60);
        x.set(2, 0);
        x.set(0, 5);
        x.run(1);
        charges("11: charging ends lives, so none is ready", x, 100, 95, 85);
        Check.due("11: all are old", x.count(5), 3);
    }

    private static void pricesOfHours() {
        SwapGo x = new SwapGo();
        x.cabinet(0, 0, 8, 1, 0);
        x.pack(0, 0);
        x.set(3, 1);
        for (int h = 0; h < 24; h++) {
            x.price(h, h);
        }
        x.run(5);
        Check.due("11: the price of each hour that went", x.in(0, 3), 0 + 1 + 2 + 3 + 4);
        x.run(20);
        Check.due("11: the day begins anew", x.in(0, 3), 23 * 24 / 2);
        x.run(1);
        Check.due("11: and goes on", x.in(0, 3), 23 * 24 / 2 + 1);
    }

    private static void charges(String what, SwapGo x, int... due) {
        for (int p = 0; p < due.length; p++) {
            Check.due(what + ": charge of " + p, Check.of(x, p, 0), due[p]);
        }
    }
}

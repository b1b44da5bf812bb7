import java.util.ArrayList;
import java.util.Comparator;
import java.util.List;
import java.util.stream.Collectors;
import java.util.stream.Stream;

/** Promises 2 to 14 written a second time, over lists and sorting, to compare long runs with. */
final class Model {
    static final class Cabinet {
        int x;
        int y;
        int slots;
        int lines;
        int need;
        int bill;
        int wish;
    }

    static final class Pack {
        int number;
        int charge;
        int age;
        boolean sick;
        Cabinet home;
    }

    private static final Comparator<Pack> ORDER = Comparator.comparingInt((Pack p) -> -p.charge)
            .thenComparingInt(p -> p.age).thenComparingInt(p -> p.number);

    final List<Cabinet> cabinets = new ArrayList<>();
    final List<Pack> packs = new ArrayList<>();
    final int[] prices = new int[24];
    int life = 2000;
    int full = 80;
    int cap = 1000;
    int rate = 25;
    int van = 10;
    int hour = 0;

    Model() {
        java.util.Arrays.fill(prices, 10);
    }

    Cabinet cabinetAt(int c) {
        return c >= 0 && c < cabinets.size() ? cabinets.get(c) : null;
    }

    private Pack packAt(int p) {
        return p >= 0 && p < packs.size() ? packs.get(p) : null;
    }

    Stream<Pack> inside(Cabinet c) {
        return packs.stream().filter(p -> p.home == c);
    }

    private boolean ready(Pack p) {
        return p.home != null && !p.sick && p.age < life && p.charge >= full;
    }

    private Pack given(Cabinet c) {
        return inside(c).filter(this::ready).min(ORDER).orElse(null);
    }

    int cabinet(int x, int y, int slots, int lines, int need) {
        boolean right = x >= 0 && x <= 99 && y >= 0 && y <= 99 && slots >= 1 && slots <= 8
                && lines >= 0 && lines <= 8 && need >= 0 && need <= 8;
        if (!right || cabinets.size() == 6) {
            return -1;
        }
        Cabinet c = new Cabinet();
        c.x = x;
        c.y = y;
        c.slots = slots;
        c.lines = lines;
        c.need = need;
        cabinets.add(c);
        return cabinets.size() - 1;
    }

    int pack(int cabinet, int charge) {
        Cabinet c = cabinetAt(cabinet);
        if (c == null || charge < 0 || charge > 100 || packs.size() == 30 || inside(c).count() >= c.slots) {
            return -1;
        }
        Pack p = new Pack();
        p.number = packs.size();
        p.charge = charge;
        p.home = c;
        packs.add(p);
        return p.number;
    }

    int set(int what, int v) {
        int before = -1;
        if (what == 0 && v >= 1 && v <= 100000) {
            before = life;
            life = v;
        } else if (what == 1 && v >= 1 && v <= 100) {
            before = full;
            full = v;
        } else if (what == 2 && v >= 0 && v <= 1000) {
            before = cap;
            cap = v;
        } else if (what == 3 && v >= 1 && v <= 100) {
            before = rate;
            rate = v;
        } else if (what == 4 && v >= 1 && v <= 30) {
            before = van;
            van = v;
        }
        return before;
    }

    int price(int h, int v) {
        if (h < 0 || h > 23 || v < 0 || v > 1000) {
            return 0;
        }
        prices[h] = v;
        return 1;
    }

    int sick(int pack, boolean is) {
        Pack p = packAt(pack);
        if (p == null) {
            return 0;
        }
        p.sick = is;
        return 1;
    }

    int take(int cabinet) {
        Cabinet c = cabinetAt(cabinet);
        Pack out = c == null ? null : given(c);
        if (out == null) {
            return -1;
        }
        out.home = null;
        return out.number;
    }

    int swap(int cabinet, int pack, int charge) {
        Cabinet c = cabinetAt(cabinet);
        Pack p = packAt(pack);
        if (c == null || p == null || p.home != null || charge < 0 || charge > p.charge || given(c) == null) {
            return -1;
        }
        Pack out = given(c);
        out.home = null;
        p.home = c;
        p.charge = charge;
        return out.number;
    }

    int bring(int cabinet, int pack, int charge) {
        Cabinet c = cabinetAt(cabinet);
        Pack p = packAt(pack);
        if (c == null || p == null || p.home != null || charge < 0 || charge > p.charge
                || inside(c).count() >= c.slots) {
            return -1;
        }
        p.home = c;
        p.charge = charge;
        return (int) inside(c).count();
    }

    int move(int pack, int cabinet) {
        Cabinet c = cabinetAt(cabinet);
        Pack p = packAt(pack);
        if (c == null || p == null || p.home == null || p.home == c || inside(c).count() >= c.slots) {
            return 0;
        }
        p.home = c;
        return 1;
    }

    int run(int n) {
        if (n < 0 || n > 200 || hour + n > 10000) {
            return -1;
        }
        for (int i = 0; i < n; i++) {
            cabinets.forEach(this::oneHour);
            hour++;
        }
        return hour;
    }

    private void oneHour(Cabinet c) {
        int price = prices[hour % 24];
        List<Pack> row = inside(c).filter(p -> !p.sick && p.age < life && p.charge < 100)
                .sorted(ORDER).limit(c.lines).collect(Collectors.toList());
        for (Pack p : row) {
            if (price <= cap || inside(c).filter(this::ready).count() < c.need) {
                int before = p.charge;
                p.charge = Math.min(100, before + rate);
                p.age += p.charge - before;
                c.bill += price;
            }
        }
    }

    int count(int what) {
        switch (what) {
            case 0:
                return cabinets.size();
            case 1:
                return packs.size();
            case 2:
                return hour;
            case 3:
                return (int) inside(null).count();
            case 4:
                return (int) packs.stream().filter(p -> p.sick).count();
            case 5:
                return (int) packs.stream().filter(p -> p.age >= life).count();
            case 9:
                return prices[hour % 24];
            default:
                return -1;
        }
    }

    int of(int pack, int what) {
        Pack p = packAt(pack);
        if (p == null || what < 0 || what > 3) {
            return Check.THROWN;
        }
        int[] all = {p.charge, p.age, cabinets.indexOf(p.home), ready(p) ? 1 : 0};
        return all[what];
    }

    int in(int cabinet, int what) {
        Cabinet c = cabinetAt(cabinet);
        if (c == null || what < 0 || what > 4) {
            return -1;
        }
        Pack next = given(c);
        int[] all = {(int) inside(c).count(), (int) inside(c).filter(this::ready).count(),
            next == null ? -1 : next.number, c.bill, c.wish};
        return all[what];
    }
}

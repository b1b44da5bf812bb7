import java.util.ArrayList;
import java.util.Arrays;
import java.util.List;

/** Promises 15 to 24 written a second time, by trying out, over the cabinets and packs of a Model. */
final class PlanModel {
    private static final int TOO_DEAR = Integer.MAX_VALUE / 2;

    private final Model model;
    final List<Integer> needs = new ArrayList<>();
    final List<int[]> points = new ArrayList<>();
    final List<int[]> sites = new ArrayList<>();
    private int[] plan = {};
    private int[] round = {};
    private int bits = 0;
    private int least;
    private int[] best;

    PlanModel(Model model) {
        this.model = model;
    }

    int count(int what) {
        return what == 6 ? needs.size() : what == 7 ? points.size() : what == 8 ? sites.size() : model.count(what);
    }

    int need(int v) {
        if (v < 0 || v > 20 || needs.size() == 12) {
            return -1;
        }
        needs.add(v);
        return needs.size();
    }

    int clear() {
        int before = needs.size();
        needs.clear();
        points.clear();
        sites.clear();
        return before;
    }

    int plan(int lines) {
        if (lines < 0 || lines > 20) {
            return -1;
        }
        int all = needs.stream().mapToInt(v -> v).sum();
        int[][] restOf = costsFrom(lines, all);
        if (restOf[0][0] >= TOO_DEAR) {
            return -2;
        }
        plan = new int[needs.size()];
        int have = 0;
        for (int i = 0; i < plan.length; i++) {
            int more = Math.min(lines, all - have);
            while (more * priceOf(i) + restOf[i + 1][have + more] != restOf[i][have]) {
                more--;
            }
            plan[i] = more;
            have += more;
        }
        return restOf[0][0];
    }

    /** By hour and by charges ahead of it: the least price of the charges from it on. */
    private int[][] costsFrom(int lines, int all) {
        int[][] costs = new int[needs.size() + 1][all + 1];
        Arrays.fill(costs[needs.size()], TOO_DEAR);
        costs[needs.size()][all] = 0;
        int needed = all;
        for (int i = needs.size() - 1; i >= 0; i--) {
            for (int have = 0; have <= all; have++) {
                costs[i][have] = TOO_DEAR;
                for (int more = Math.max(0, needed - have); more <= lines && have + more <= all; more++) {
                    costs[i][have] = Math.min(costs[i][have], more * priceOf(i) + costs[i + 1][have + more]);
                }
            }
            needed -= needs.get(i);
        }
        return costs;
    }

    private int priceOf(int i) {
        return model.prices[(model.hour + i) % 24];
    }

    int planned(int i) {
        return i >= 0 && i < plan.length ? plan[i] : -1;
    }

    int wish(int cabinet, int v) {
        Model.Cabinet c = model.cabinetAt(cabinet);
        if (c == null || v < 0 || v > 8) {
            return 0;
        }
        c.wish = v;
        return 1;
    }

    int round() {
        int[] differing = java.util.stream.IntStream.range(0, model.cabinets.size())
                .filter(c -> more(c) != 0).toArray();
        least = -2;
        tryRows(differing, new int[0]);
        if (least != -2) {
            round = best;
        }
        return least;
    }

    private int more(int c) {
        Model.Cabinet cabinet = model.cabinets.get(c);
        return (int) model.inside(cabinet).count() - cabinet.wish;
    }

    private void tryRows(int[] left, int[] row) {
        if (left.length == 0) {
            int length = lengthOf(row);
            if (length != -2 && (least == -2 || length < least)) {
                least = length;
                best = row;
            }
        }
        for (int next : left) {
            int[] longer = Arrays.copyOf(row, row.length + 1);
            longer[row.length] = next;
            tryRows(Arrays.stream(left).filter(c -> c != next).toArray(), longer);
        }
    }

    private int lengthOf(int[] row) {
        int atX = 0;
        int atY = 0;
        int load = 0;
        int length = 0;
        for (int c : row) {
            Model.Cabinet cabinet = model.cabinets.get(c);
            length += Math.abs(cabinet.x - atX) + Math.abs(cabinet.y - atY);
            atX = cabinet.x;
            atY = cabinet.y;
            load += more(c);
            if (load < 0 || load > model.van) {
                return -2;
            }
        }
        return length + atX + atY;
    }

    int stop(int i) {
        return i >= 0 && i < round.length ? round[i] : -1;
    }

    int point(int what, int x, int y) {
        boolean right = (what == 0 || what == 1) && x >= 0 && x <= 99 && y >= 0 && y <= 99;
        List<int[]> row = what == 0 ? points : sites;
        if (!right || row.size() == (what == 0 ? 12 : 8)) {
            return -1;
        }
        row.add(new int[] {x, y});
        return row.size() - 1;
    }

    int places(int k) {
        if (k < 0 || k > sites.size() || k == 0 && model.cabinets.isEmpty()) {
            return -1;
        }
        least = -1;
        tryPlaces(k, 0, 0);
        return least;
    }

    /** Rows of places, the first ones first. */
    private void tryPlaces(int k, int from, int chosen) {
        if (k == 0) {
            int sum = points.stream().mapToInt(p -> way(p, chosen)).sum();
            if (least == -1 || sum < least) {
                least = sum;
                bits = chosen;
            }
            return;
        }
        for (int i = from; i < sites.size(); i++) {
            tryPlaces(k - 1, i + 1, chosen | 1 << i);
        }
    }

    private int way(int[] point, int chosen) {
        int way = TOO_DEAR;
        for (Model.Cabinet c : model.cabinets) {
            way = Math.min(way, Math.abs(c.x - point[0]) + Math.abs(c.y - point[1]));
        }
        for (int i = 0; i < sites.size(); i++) {
            if ((chosen >> i & 1) != 0) {
                int[] site = sites.get(i);
                way = Math.min(way, Math.abs(site[0] - point[0]) + Math.abs(site[1] - point[1]));
            }
        }
        return way;
    }

    int chosen() {
        return bits;
    }
}

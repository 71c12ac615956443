import java.util.ArrayList;
import java.util.Comparator;
import java.util.HashMap;
import java.util.List;
import java.util.Map;
import java.util.Objects;
import java.util.TreeMap;

/**
 * The document once more, in another way: which row a key lives in is held by key, a row lives if it is that one,
 * and a merge sorts all its rows when it begins.
 */
final class Model {
    static final int THROWN = Integer.MIN_VALUE;

    private static final class Row {
        final int key;
        int value;
        Row writtenAs;

        Row(int key, int value) {
            this.key = key;
            this.value = value;
        }
    }

    private static final class Seg {
        final int number;
        final int tier;
        final List<Row> rows;

        Seg(int number, int tier, List<Row> rows) {
            this.number = number;
            this.tier = tier;
            this.rows = rows;
        }
    }

    private static final class Putting {
        final int place;
        final List<Seg> parts;
        final List<Row> order = new ArrayList<>();
        final List<Row> out = new ArrayList<>();
        int taken = 0;

        Putting(int place, List<Seg> parts) {
            this.place = place;
            this.parts = parts;
            for (Seg s : parts) {
                for (Row r : s.rows) {
                    r.writtenAs = null;
                    order.add(r);
                }
            }
            order.sort(Comparator.comparingInt(r -> r.key));
        }
    }

    private final TreeMap<Integer, Row> home = new TreeMap<>();
    private final List<Row> memory = new ArrayList<>();
    private final List<Seg> row = new ArrayList<>();
    private final Map<Integer, Map<Integer, Integer>> views = new HashMap<>();
    private int numbers = 0;
    private int written = 0;
    private int f = 3;
    private Putting going = null;
    private Putting last = null;

    private boolean lives(Row r) {
        return home.get(r.key) == r;
    }

    private int living(Seg s) {
        return (int) s.rows.stream().filter(this::lives).count();
    }

    private static boolean key(int key) {
        return 0 <= key && key <= 99;
    }

    private boolean place(int p) {
        return 0 <= p && p < row.size();
    }

    int put(int key, int value) {
        if (!key(key)) {
            return -1;
        }
        if (value < 0 || value > 999) {
            return -2;
        }
        Row there = home.get(key);
        if (memory.contains(there)) {
            there.value = value;
        } else if (memory.size() == 6) {
            return -4;
        } else {
            Row r = new Row(key, value);
            memory.add(r);
            home.put(key, r);
        }
        return memory.size();
    }

    int drop(int key) {
        if (!key(key)) {
            return -1;
        }
        Row r = home.remove(key);
        memory.remove(r);
        return r == null ? 0 : 1;
    }

    int get(int key) {
        if (!key(key)) {
            return -1;
        }
        Row r = home.get(key);
        return r == null ? -3 : r.value;
    }

    int next(int key) {
        if (!key(key)) {
            return -1;
        }
        Integer k = home.ceilingKey(key);
        return k == null ? -3 : k;
    }

    int flush() {
        if (memory.isEmpty()) {
            return -3;
        }
        if (row.size() == 20) {
            return -4;
        }
        List<Row> rows = new ArrayList<>(memory);
        rows.sort(Comparator.comparingInt(r -> r.key));
        row.add(new Seg(numbers, 0, rows));
        written += rows.size();
        memory.clear();
        return numbers++;
    }

    int count(int what) {
        int[] all = {
            memory.size(), row.size(), row.stream().mapToInt(s -> s.rows.size()).sum(),
            row.stream().mapToInt(this::living).sum(), written, home.size()
        };
        return what < 0 || what > 5 ? -2 : all[what];
    }

    int segment(int p, int what) {
        if (!place(p)) {
            return -1;
        }
        Seg s = row.get(p);
        int[] all = {s.number, s.tier, s.rows.size(), living(s), going != null && going.parts.contains(s) ? 1 : 0};
        return what < 0 || what > 4 ? -2 : all[what];
    }

    int row(int p, int i, int what) {
        if (!place(p) || i < 0 || i >= row.get(p).rows.size()) {
            return -1;
        }
        Row r = row.get(p).rows.get(i);
        int[] all = {r.key, r.value, lives(r) ? 1 : 0};
        return what < 0 || what > 2 ? -2 : all[what];
    }

    int full(int n) {
        if (n < 2 || n > 5) {
            return -2;
        }
        int was = f;
        f = n;
        return was;
    }

    int due() {
        int greatest = row.stream().mapToInt(s -> s.tier).max().orElse(-1);
        for (int tier = 0; tier <= greatest; tier++) {
            int run = 0;
            for (int p = 0; p < row.size(); p++) {
                run = row.get(p).tier == tier ? run + 1 : 0;
                if (run == f) {
                    return p - f + 1;
                }
            }
        }
        return -3;
    }

    int cheapest(int n) {
        if (n < 2 || n > 6) {
            return -2;
        }
        int best = -3;
        int least = Integer.MAX_VALUE;
        for (int p = 0; p + n <= row.size(); p++) {
            int sum = row.subList(p, p + n).stream().mapToInt(this::living).sum();
            if (sum < least) {
                least = sum;
                best = p;
            }
        }
        return best;
    }

    int worst() {
        int worst = -3;
        for (int p = row.size() - 1; p >= 0; p--) {
            if (worst < 0 || dead(p) * size(worst) >= dead(worst) * size(p)) {
                worst = p;
            }
        }
        return worst;
    }

    private long dead(int p) {
        return row.get(p).rows.size() - living(row.get(p));
    }

    private long size(int p) {
        return row.get(p).rows.size();
    }

    int begin(int p, int n) {
        if (!place(p)) {
            return -1;
        }
        if (n < 2 || n > 6) {
            return -2;
        }
        if (!place(p + n - 1)) {
            return -1;
        }
        if (going != null) {
            return -3;
        }
        // what the latest one that ended told of its rows is kept: its segments are none of these
        going = new Putting(p, new ArrayList<>(row.subList(p, p + n)));
        return going.order.size();
    }

    int step(int n) {
        if (n < 0 || n > 1000) {
            return -2;
        }
        if (going == null) {
            return -3;
        }
        int took = 0;
        for (; took < n && going.taken < going.order.size(); took++) {
            Row r = going.order.get(going.taken++);
            if (lives(r)) {
                r.writtenAs = new Row(r.key, r.value);
                going.out.add(r.writtenAs);
            }
        }
        if (going.taken == going.order.size()) {
            end();
        }
        return took;
    }

    private void end() {
        for (Row r : going.order) {
            if (r.writtenAs != null && lives(r)) {
                home.put(r.key, r.writtenAs);
            }
        }
        row.removeAll(going.parts);
        if (!going.out.isEmpty()) {
            int tier = going.parts.stream().mapToInt(s -> s.tier).max().orElse(0) + 1;
            row.add(going.place, new Seg(numbers++, tier, going.out));
        }
        written += going.out.size();
        last = going;
        going = null;
    }

    int stop() {
        if (going == null) {
            return -3;
        }
        int taken = going.taken;
        written += going.out.size();
        going = null;
        return taken;
    }

    int merging(int what) {
        if (what < 0 || what > 3) {
            return -2;
        }
        if (going == null) {
            return -3;
        }
        int[] all = {going.taken, going.out.size(), going.order.size() - going.taken, going.place};
        return all[what];
    }

    int moved(int number, int i) {
        if (last == null) {
            return -1;
        }
        for (Seg s : last.parts) {
            if (s.number == number && 0 <= i && i < s.rows.size()) {
                Row to = s.rows.get(i).writtenAs;
                return to == null ? -3 : last.out.indexOf(to);
            }
        }
        return -1;
    }

    int view() {
        for (int v = 0; v < 4; v++) {
            if (!views.containsKey(v)) {
                views.put(v, values());
                return v;
            }
        }
        return -4;
    }

    private Map<Integer, Integer> values() {
        Map<Integer, Integer> all = new HashMap<>();
        for (Row r : home.values()) {
            all.put(r.key, r.value);
        }
        return all;
    }

    int seen(int view, int key) {
        if (!views.containsKey(view) || !key(key)) {
            return -1;
        }
        return views.get(view).getOrDefault(key, -3);
    }

    int shut(int view) {
        Map<Integer, Integer> then = views.remove(view);
        if (then == null) {
            return -1;
        }
        Map<Integer, Integer> now = values();
        int other = 0;
        for (int key = 0; key < 100; key++) {
            if (!Objects.equals(then.get(key), now.get(key))) {
                other++;
            }
        }
        return other;
    }

    int share() {
        int all = count(2);
        return all == 0 ? THROWN : (int) (1000L * count(3) / all);
    }
}

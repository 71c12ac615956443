import java.util.Random;
import java.util.Set;
import java.util.TreeSet;

/** Runs of 512 calls, drawn from fixed seeds, on an object and on the model. */
public final class ModelTest {
    private static final int RUNS = 3000;
    private static final int CALLS = 512;

    /** How often each call is drawn, by kind of run: all alike, many segments, many merges, one key upon another. */
    private static final int[][] WEIGHTS = {
        {9, 4, 2, 2, 5, 3, 2, 3, 1, 2, 2, 2, 3, 5, 1, 3, 3, 1, 2, 1, 1},
        {20, 1, 1, 1, 18, 1, 1, 2, 1, 2, 2, 2, 1, 1, 1, 1, 1, 1, 1, 1, 1},
        {20, 3, 1, 1, 8, 1, 2, 4, 1, 1, 1, 1, 8, 8, 1, 2, 6, 1, 1, 1, 1},
        {14, 9, 1, 1, 7, 1, 2, 5, 1, 1, 1, 1, 5, 8, 1, 3, 4, 1, 2, 1, 1}
    };
    private static final int[] KEY_RANGES = {100, 100, 100, 8};

    private static final Set<String> KINDS_OF_ANSWERS = new TreeSet<>();

    public static void main(String[] args) {
        for (int run = 0; run < RUNS; run++) {
            compare(run);
        }
        everyKindOfAnswerCame();
        Check.finish();
    }

    private static void compare(int run) {
        Random random = new Random(run);
        SegmentMerges x = new SegmentMerges();
        Model m = new Model();
        int kind = run % WEIGHTS.length;
        for (int c = 0; c < CALLS; c++) {
            int call = draw(random, WEIGHTS[kind]);
            int[] a = arguments(random, call, KEY_RANGES[kind]);
            int want = ofModel(m, call, a);
            int got = ofObject(x, call, a);
            KINDS_OF_ANSWERS.add(call + " " + (want < 0 ? want : 0));
            Check.due("run " + run + ", call " + c + ": number " + call + " of the face ("
                    + a[0] + ", " + a[1] + ", " + a[2] + ")", got, want);
            if (got != want) {
                return;
            }
        }
    }

    private static int draw(Random random, int[] weights) {
        int all = 0;
        for (int w : weights) {
            all += w;
        }
        int left = random.nextInt(all);
        int call = 0;
        while (left >= weights[call]) {
            left -= weights[call];
            call++;
        }
        return call;
    }

    private static int[] arguments(Random random, int call, int keys) {
        if (random.nextInt(25) == 0) {
            return new int[] {odd(random), odd(random), odd(random)};
        }
        int key = random.nextInt(keys);
        switch (call) {
            case 0:
                return of(key, random.nextInt(3) == 0 ? random.nextInt(1000) : random.nextInt(3), 0);
            case 1: case 2: case 3:
                return of(key, 0, 0);
            case 5:
                return of(random.nextInt(6), 0, 0);
            case 6:
                return of(random.nextInt(8), random.nextInt(5), 0);
            case 7:
                return of(random.nextInt(8), random.nextInt(9), random.nextInt(3));
            case 8:
                return of(2 + random.nextInt(4), 0, 0);
            case 10:
                return of(2 + random.nextInt(5), 0, 0);
            case 12:
                return of(random.nextInt(8), 2 + random.nextInt(random.nextInt(5) + 1), 0);
            case 13:
                return of(random.nextInt(4) == 0 ? 1000 : random.nextInt(12), 0, 0);
            case 15:
                return of(random.nextInt(4), 0, 0);
            case 16:
                return of(random.nextInt(50), random.nextInt(9), 0);
            case 18:
                return of(random.nextInt(4), key, 0);
            case 19:
                return of(random.nextInt(4), 0, 0);
            default:
                return of(0, 0, 0);
        }
    }

    private static int[] of(int a, int b, int c) {
        return new int[] {a, b, c};
    }

    private static int odd(Random random) {
        int[] odd = {-1, 0, 1, 2, 3, 4, 5, 6, 7, 19, 20, 99, 100, 999, 1000, 1001,
            Integer.MIN_VALUE, Integer.MAX_VALUE};
        return odd[random.nextInt(odd.length)];
    }

    static int ofObject(SegmentMerges x, int call, int[] a) {
        switch (call) {
            case 0: return x.put(a[0], a[1]);
            case 1: return x.drop(a[0]);
            case 2: return x.get(a[0]);
            case 3: return x.next(a[0]);
            case 4: return x.flush();
            case 5: return x.count(a[0]);
            case 6: return x.segment(a[0], a[1]);
            case 7: return x.row(a[0], a[1], a[2]);
            case 8: return x.full(a[0]);
            case 9: return x.due();
            case 10: return x.cheapest(a[0]);
            case 11: return x.worst();
            case 12: return x.begin(a[0], a[1]);
            case 13: return x.step(a[0]);
            case 14: return x.stop();
            case 15: return x.merging(a[0]);
            case 16: return x.moved(a[0], a[1]);
            case 17: return x.view();
            case 18: return x.seen(a[0], a[1]);
            case 19: return x.shut(a[0]);
            default: return Check.shareOrThrown(x);
        }
    }

    private static int ofModel(Model m, int call, int[] a) {
        switch (call) {
            case 0: return m.put(a[0], a[1]);
            case 1: return m.drop(a[0]);
            case 2: return m.get(a[0]);
            case 3: return m.next(a[0]);
            case 4: return m.flush();
            case 5: return m.count(a[0]);
            case 6: return m.segment(a[0], a[1]);
            case 7: return m.row(a[0], a[1], a[2]);
            case 8: return m.full(a[0]);
            case 9: return m.due();
            case 10: return m.cheapest(a[0]);
            case 11: return m.worst();
            case 12: return m.begin(a[0], a[1]);
            case 13: return m.step(a[0]);
            case 14: return m.stop();
            case 15: return m.merging(a[0]);
            case 16: return m.moved(a[0], a[1]);
            case 17: return m.view();
            case 18: return m.seen(a[0], a[1]);
            case 19: return m.shut(a[0]);
            default: return m.share();
        }
    }

    /** The runs are worth little where they never come to a refusal, so each one of the document must have come. */
    private static void everyKindOfAnswerCame() {
        String[] due = {
            "0 0", "0 -1", "0 -2", "0 -4", "1 0", "1 -1", "2 0", "2 -1", "2 -3", "3 0", "3 -1", "3 -3",
            "4 0", "4 -3", "4 -4", "5 0", "5 -2", "6 0", "6 -1", "6 -2", "7 0", "7 -1", "7 -2", "8 0", "8 -2",
            "9 0", "9 -3", "10 0", "10 -2", "10 -3", "11 0", "11 -3", "12 0", "12 -1", "12 -2", "12 -3",
            "13 0", "13 -2", "13 -3", "14 0", "14 -3", "15 0", "15 -2", "15 -3", "16 0", "16 -1", "16 -3",
            "17 0", "17 -4", "18 0", "18 -1", "18 -3", "19 0", "19 -1", "20 0", "20 " + Model.THROWN
        };
        for (String d : due) {
            Check.due("an answer of the kind " + d + " came", KINDS_OF_ANSWERS.contains(d) ? 1 : 0, 1);
        }
        Check.due("kinds of answers", KINDS_OF_ANSWERS.size(), due.length);
    }
}

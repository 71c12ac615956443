import java.util.Random;
import java.util.Set;
import java.util.TreeSet;

/** Runs of 512 calls, drawn from fixed seeds, on an object and on the model. */
public final class ModelTest {
    private static final int RUNS = 3000;
    private static final int CALLS = 512;

    /** How often each call is drawn, by kind of run: all alike, many segments, many merges, one key upon another. */
    private static final int[][] WEIGHTS = {
        {9, 4, 2, 2, 5, 3, 2, 3, 1, 2, 2, 2, 3, 5, 1, 3, 3, 1, 2, 1, 1},
        {20, 1, 1, 1, 18, 1, 1, 2, 1, 2, 2, 2, 1, 1, 1, 1, 1, 1, 1, 1, 1},
        {20, 3, 1, 1, 8, 1, 2, 4, 1, 1, 1, 1, 8, 8, 1, 2, 6, 1, 1, 1, 1},
        {14, 9, 1, 1, 7, 1, 2, 5, 1, 1, 1, 1, 5, 8, 1, 3, 4, 1, 2, 1, 1}
    };
    private static final int[] KEY_RANGES = {100, 100, 100, 8};

    private static final Set<String> KINDS_OF_ANSWERS = new TreeSet<>();

    public static void main(String[] args) {
        for (int run = 0; run < RUNS; run++) {
            compare(run);
        }
        everyKindOfAnswerCame();
        Check.finish();
    }

    private static void compare(int run) {
        Random random = new Random(run);
        SegmentMerges x = new SegmentMerges();
        Model m = new Model();
        int kind = run % WEIGHTS.length;
        for (int c = 0; c < CALLS; c++) {
            int call = draw(random, WEIGHTS[kind]);
            int[] a = arguments(random, call, KEY_RANGES[kind]);
            int want = ofModel(m, call, a);
            int got = Face.answer(x, call, a[0], a[1], a[2]);
            KINDS_OF_ANSWERS.add(call + " " + (want < 0 ? want : 0));
            Check.due("run " + run + ", call " + c + ": " + Face.told(call, a[0], a[1], a[2]), got, want);
            if (got != want) {
                return;
            }
        }
    }

    private static int draw(Random random, int[] weights) {
        int all = 0;
        for (int w : weights) {
            all += w;
        }
        int left = random.nextInt(all);
        int call = 0;
        while (left >= weights[call]) {
            left -= weights[call];
            call++;
        }
        return call;
    }

    private static int[] arguments(Random random, int call, int keys) {
        if (random.nextInt(25) == 0) {
            return new int[] {odd(random), odd(random), odd(random)};
        }
        int key = random.nextInt(keys);
        switch (call) {
            case Face.PUT:
                return of(key, random.nextInt(3) == 0 ? random.nextInt(1000) : random.nextInt(3), 0);
            case Face.DROP: case Face.GET: case Face.NEXT:
                return of(key, 0, 0);
            case Face.COUNT:
                return of(random.nextInt(6), 0, 0);
            case Face.SEGMENT:
                return of(random.nextInt(8), random.nextInt(5), 0);
            case Face.ROW:
                return of(random.nextInt(8), random.nextInt(9), random.nextInt(3));
            case Face.FULL:
                return of(2 + random.nextInt(4), 0, 0);
            case Face.CHEAPEST:
                return of(2 + random.nextInt(5), 0, 0);
            case Face.BEGIN:
                return of(random.nextInt(8), 2 + random.nextInt(random.nextInt(5) + 1), 0);
            case Face.STEP:
                return of(random.nextInt(4) == 0 ? 1000 : random.nextInt(12), 0, 0);
            case Face.MERGING:
                return of(random.nextInt(4), 0, 0);
            case Face.MOVED:
                return of(random.nextInt(50), random.nextInt(9), 0);
            case Face.SEEN:
                return of(random.nextInt(4), key, 0);
            case Face.SHUT:
                return of(random.nextInt(4), 0, 0);
            default:
                return of(0, 0, 0);
        }
    }

    private static int[] of(int a, int b, int c) {
        return new int[] {a, b, c};
    }

    private static int odd(Random random) {
        int[] odd = {-1, 0, 1, 2, 3, 4, 5, 6, 7, 19, 20, 99, 100, 999, 1000, 1001,
            Integer.MIN_VALUE, Integer.MAX_VALUE};
        return odd[random.nextInt(odd.length)];
    }

    private static int ofModel(Model m, int call, int[] a) {
        switch (call) {
            case Face.PUT: return m.put(a[0], a[1]);
            case Face.DROP: return m.drop(a[0]);
            case Face.GET: return m.get(a[0]);
            case Face.NEXT: return m.next(a[0]);
            case Face.FLUSH: return m.flush();
            case Face.COUNT: return m.count(a[0]);
            case Face.SEGMENT: return m.segment(a[0], a[1]);
            case Face.ROW: return m.row(a[0], a[1], a[2]);
            case Face.FULL: return m.full(a[0]);
            case Face.DUE: return m.due();
            case Face.CHEAPEST: return m.cheapest(a[0]);
            case Face.WORST: return m.worst();
            case Face.BEGIN: return m.begin(a[0], a[1]);
            case Face.STEP: return m.step(a[0]);
            case Face.STOP: return m.stop();
            case Face.MERGING: return m.merging(a[0]);
            case Face.MOVED: return m.moved(a[0], a[1]);
            case Face.VIEW: return m.view();
            case Face.SEEN: return m.seen(a[0], a[1]);
            case Face.SHUT: return m.shut(a[0]);
            default: return m.share();
        }
    }

    /** The runs are worth little where they never come to a refusal, so each one of the document must have come. */
    private static void everyKindOfAnswerCame() {
        String[] due = {
            "0 0", "0 -1", "0 -2", "0 -4", "1 0", "1 -1", "2 0", "2 -1", "2 -3", "3 0", "3 -1", "3 -3",
            "4 0", "4 -3", "4 -4", "5 0", "5 -2", "6 0", "6 -1", "6 -2", "7 0", "7 -1", "7 -2", "8 0", "8 -2",
            "9 0", "9 -3", "10 0", "10 -2", "10 -3", "11 0", "11 -3", "12 0", "12 -1", "12 -2", "12 -3",
            "13 0", "13 -2", "13 -3", "14 0", "14 -3", "15 0", "15 -2", "15 -3", "16 0", "16 -1", "16 -3",
            "17 0", "17 -4", "18 0", "18 -1", "18 -3", "19 0", "19 -1", "20 0", "20 " + Model.THROWN
        };
        for (String d : due) {
            Check.due("an answer of the kind " + d + " came", KINDS_OF_ANSWERS.contains(d) ? 1 : 0, 1);
        }
        Check.due("kinds of answers", KINDS_OF_ANSWERS.size(), due.length);
    }
}

import java.util.Random;

/** No call throws by itself, whatever it is given and however long an object has been used. */
public final class NeverThrowsTest {
    private static final int[] ODD = {
        Integer.MIN_VALUE, Integer.MIN_VALUE + 1, -1000, -7, -1, 0, 1, 2, 5, 6, 7, 19, 20, 21, 99, 100, 101,
        999, 1000, 1001, 1 << 16, Integer.MAX_VALUE - 1, Integer.MAX_VALUE
    };

    public static void main(String[] args) {
        oddArgumentsOnANewObject();
        longUse();
        greatestSegments();
        Check.finish();
    }

    private static void oddArgumentsOnANewObject() {
        for (int call = 0; call < Face.CALLS; call++) {
            for (int a : ODD) {
                for (int b : ODD) {
                    SegmentMerges x = new SegmentMerges();
                    quiet(x, call, a, b, b);
                }
            }
        }
    }

    private static void longUse() {
        Random random = new Random(1);
        SegmentMerges x = new SegmentMerges();
        for (int c = 0; c < 300000; c++) {
            int call = random.nextInt(4) == 0 ? Face.FLUSH * random.nextInt(2) : random.nextInt(Face.CALLS);
            int a = random.nextInt(3) == 0 ? ODD[random.nextInt(ODD.length)] : random.nextInt(100);
            int b = random.nextInt(3) == 0 ? ODD[random.nextInt(ODD.length)] : random.nextInt(10);
            quiet(x, call, random.nextInt(3) == 0 ? a % 8 : a, b, random.nextInt(3));
        }
    }

    /** One segment of all keys, and what a merge with it makes. */
    private static void greatestSegments() {
        SegmentMerges x = States.ofAllKeys();
        while (x.count(1) > 1) {
            x.begin(0, Math.min(6, x.count(1)));
            x.step(1000);
        }
        Check.due("rows of the one segment", x.segment(0, 2), 100);
        Check.due("its last key", x.row(0, 99, 0), 99);
        Check.due("share", Check.shareOrThrown(x), 1000);
        x.put(50, 1);
        x.flush();
        Check.due("rows to take", x.begin(0, 2), 101);
        Check.due("taken", x.step(1000), 101);
        Check.due("rows of the new one", x.segment(0, 2), 100);
        Check.due("value of key 50", x.row(0, 50, 1), 1);
        Check.due("where the dead one went", x.moved(x.segment(0, 0) - 2, 50), -3);
    }

    private static void quiet(SegmentMerges x, int call, int a, int b, int c) {
        String thrown = "";
        try {
            Face.answer(x, call, a, b, c);
        } catch (RuntimeException e) {
            thrown = e.toString();
        }
        Check.due(Face.told(call, a, b, c) + " threw " + thrown, thrown.isEmpty() ? 0 : 1, 0);
    }
}

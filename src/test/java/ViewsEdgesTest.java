/** Each sentence of the promises 19 to 22 that names a boundary case, in a test of its own. */
public final class ViewsEdgesTest {
    private static final int MIN = Integer.MIN_VALUE;
    private static final int MAX = Integer.MAX_VALUE;

    public static void main(String[] args) {
        viewAsTheyAre();
        viewLeastFreeNumber();
        viewNoRoom();
        viewStays();
        seenValue();
        seenNoView();
        seenNoKey();
        seenNone();
        shutAnotherValue();
        shutNone();
        shutHadNone();
        shutAllOrNothing();
        shutEndsTheView();
        shutNoView();
        shareOfAll();
        shareCut();
        shareNoRows();
        Check.finish();
    }

    private static void viewAsTheyAre() {
        Check.says("Promise 19: A VIEW of all KEYS as they are");
        SegmentMerges x = States.ofAllKeys();
        x.drop(98);
        x.put(50, 7);
        x.view();
        for (int key = 0; key < 100; key++) {
            Check.due("seen(0, " + key + ")", x.seen(0, key), x.get(key));
        }
        Check.due("of a new object", new SegmentMerges().view(), 0);
    }

    private static void viewLeastFreeNumber() {
        Check.says("Promise 19: its number, the least free one of 0 .. 3");
        for (int free = 0; free < 4; free++) {
            SegmentMerges x = new SegmentMerges();
            for (int v = 0; v < 4; v++) {
                Check.due("view " + v, x.view(), v);
            }
            x.shut(3);
            x.shut(free);
            Check.due("of " + free + " and 3", x.view(), free);
        }
        SegmentMerges x = new SegmentMerges();
        for (int round = 0; round < 10; round++) {
            Check.due("round " + round, x.view(), 0);
            x.shut(0);
        }
    }

    private static void viewNoRoom() {
        Check.says("Promise 19: -4");
        SegmentMerges x = new SegmentMerges();
        x.put(5, 5);
        for (int v = 0; v < 4; v++) {
            x.view();
        }
        x.put(5, 6);
        Check.due("a fifth", x.view(), -4);
        for (int v = 0; v < 4; v++) {
            Check.due("view " + v + " is as it was", x.seen(v, 5), 5);
        }
        x.shut(3);
        Check.due("room again", x.view(), 3);
        Check.due("as it is now", x.seen(3, 5), 6);
    }

    private static void viewStays() {
        Check.says("views that stay as they were");
        SegmentMerges x = States.ofSingles(4);
        x.put(60, 6);
        x.view();
        x.put(0, 9);
        x.drop(1);
        x.put(60, 7);
        x.put(61, 1);
        x.flush();
        x.begin(0, 5);
        x.step(3);
        x.drop(0);
        x.step(1000);
        int[] keys = {0, 1, 2, 3, 60, 61};
        int[] values = {0, 10, 20, 30, 6, -3};
        for (int i = 0; i < keys.length; i++) {
            Check.due("seen(0, " + keys[i] + ")", x.seen(0, keys[i]), values[i]);
        }
    }

    private static void seenValue() {
        Check.says("Promise 20: VALUE of a KEY in a VIEW");
        SegmentMerges x = new SegmentMerges();
        x.put(0, 0);
        x.view();
        x.put(99, 999);
        x.put(0, 1);
        x.view();
        Check.due("seen(0, 0)", x.seen(0, 0), 0);
        Check.due("seen(0, 99)", x.seen(0, 99), -3);
        Check.due("seen(1, 0)", x.seen(1, 0), 1);
        Check.due("seen(1, 99)", x.seen(1, 99), 999);
    }

    private static void seenNoView() {
        Check.says("Promise 20: -1");
        SegmentMerges x = States.ofSingles(1);
        int[] none = {MIN, -1, 0, 1, 2, 3, 4, MAX};
        for (int v : none) {
            Check.due("seen(" + v + ", 0)", x.seen(v, 0), -1);
        }
        for (int v = 0; v < 4; v++) {
            x.view();
            Check.due("seen(" + v + ", 0) of a view", x.seen(v, 0), 0);
        }
        Check.due("seen(4, 0)", x.seen(4, 0), -1);
        x.shut(3);
        Check.due("shut", x.seen(3, 0), -1);
        Check.due("the one beside it", x.seen(2, 0), 0);
    }

    private static void seenNoKey() {
        Check.says("Promise 20: -1");
        SegmentMerges x = States.ofAllKeys();
        x.view();
        int[] none = {MIN, -1, 100, MAX};
        for (int key : none) {
            Check.due("seen(0, " + key + ")", x.seen(0, key), -1);
            Check.due("seen(4, " + key + ")", x.seen(4, key), -1);
        }
    }

    private static void seenNone() {
        Check.says("Promise 20: -3 it had none");
        SegmentMerges x = new SegmentMerges();
        x.put(5, 5);
        x.drop(5);
        x.view();
        x.put(0, 0);
        x.put(5, 5);
        Check.due("never: seen(0, 0)", x.seen(0, 0), -3);
        Check.due("never: seen(0, 99)", x.seen(0, 99), -3);
        Check.due("dropped: seen(0, 5)", x.seen(0, 5), -3);
    }

    private static void shutAnotherValue() {
        Check.says("Promise 21: how many KEYS have another VALUE now");
        SegmentMerges x = new SegmentMerges();
        x.put(0, 0);
        x.put(99, 999);
        x.put(50, 5);
        x.view();
        x.put(0, 1);
        x.put(99, 0);
        x.put(50, 6);
        x.put(50, 5);
        Check.due("two, and one that has its value again", x.shut(0), 2);
    }

    private static void shutNone() {
        Check.says("Promise 21: or none");
        SegmentMerges x = States.ofSingles(3);
        x.put(60, 0);
        x.view();
        x.drop(0);
        x.drop(60);
        x.drop(1);
        x.put(1, 10);
        Check.due("two, and one that has its value again", x.shut(0), 2);
    }

    private static void shutHadNone() {
        Check.says("Promise 21: or one that had none");
        SegmentMerges x = new SegmentMerges();
        x.view();
        x.put(0, 0);
        x.put(99, 0);
        x.put(50, 0);
        x.drop(50);
        Check.due("two, and one that has none again", x.shut(0), 2);
    }

    private static void shutAllOrNothing() {
        Check.says("Promise 21: how many KEYS");
        SegmentMerges x = new SegmentMerges();
        x.view();
        x.view();
        Check.due("nothing changed", x.shut(1), 0);
        for (int key = 0; key < 100; key++) {
            x.put(key, 0);
            if (x.count(0) == 6) {
                x.flush();
            }
        }
        Check.due("all changed", x.shut(0), 100);
        x.view();
        x.flush();
        x.begin(0, 6);
        x.step(1000);
        Check.due("neither a flush nor a merge changes a value", x.shut(0), 0);
    }

    private static void shutEndsTheView() {
        Check.says("Promise 21: A VIEW is shut");
        SegmentMerges x = States.ofSingles(1);
        x.view();
        x.view();
        Check.due("shut(0)", x.shut(0), 0);
        Check.due("it is none any more", x.seen(0, 0), -1);
        Check.due("the other stays", x.seen(1, 0), 0);
        Check.due("its number is free", x.view(), 0);
    }

    private static void shutNoView() {
        Check.says("Promise 21: -1");
        SegmentMerges x = new SegmentMerges();
        int[] none = {MIN, -1, 0, 1, 2, 3, 4, MAX};
        for (int v : none) {
            Check.due("shut(" + v + ")", x.shut(v), -1);
        }
        for (int v = 0; v < 4; v++) {
            x.view();
        }
        Check.due("shut(4)", x.shut(4), -1);
        Check.due("shut(-1)", x.shut(-1), -1);
        Check.due("shut(3)", x.shut(3), 0);
        Check.due("shut(3) again", x.shut(3), -1);
    }

    private static void shareOfAll() {
        Check.says("Promise 22: 1000 times the living ROWS of SEGMENTS by all of them");
        SegmentMerges x = States.ofAllKeys();
        Check.due("all live", Check.shareOrThrown(x), 1000);
        for (int key = 0; key < 100; key++) {
            x.drop(key);
            Check.due("all but " + (key + 1), Check.shareOrThrown(x), 990 - 10 * key);
        }
        x.put(5, 5);
        Check.due("the memory does not count", Check.shareOrThrown(x), 0);
    }

    private static void shareCut() {
        Check.says("Promise 22: cut");
        SegmentMerges x = new SegmentMerges();
        States.flushed(x, 0, 0, 1, 0, 2, 0);
        x.drop(0);
        Check.due("2 of 3", Check.shareOrThrown(x), 666);
        x.drop(1);
        Check.due("1 of 3", Check.shareOrThrown(x), 333);
        States.fillMemory(x, 10);
        x.flush();
        States.fillMemory(x, 20);
        x.flush();
        States.flushed(x, 30, 0);
        x.drop(2);
        x.drop(30);
        x.put(10, 0);
        Check.due("11 of 16", Check.shareOrThrown(x), 687);
    }

    private static void shareNoRows() {
        Check.says("Promise 22: ArithmeticException: there are none");
        SegmentMerges x = new SegmentMerges();
        Check.due("a new object", Check.shareOrThrown(x), Model.THROWN);
        x.put(0, 0);
        Check.due("rows in the memory alone", Check.shareOrThrown(x), Model.THROWN);
        x.flush();
        Check.due("one row", Check.shareOrThrown(x), 1000);
        States.flushed(x, 1, 1);
        x.drop(0);
        x.drop(1);
        Check.due("all dead is not none", Check.shareOrThrown(x), 0);
        States.merged(x, 0, 2);
        Check.due("no segment any more", Check.shareOrThrown(x), Model.THROWN);
    }
}

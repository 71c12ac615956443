/** Promises 19 to 22: view, seen, shut, share. */
public final class ViewsTest {
    public static void main(String[] args) {
        numbersOfViews();
        viewsStay();
        seenRefused();
        shut();
        shutRefused();
        share();
        Check.finish();
    }

    private static void numbersOfViews() {
        SegmentMerges x = new SegmentMerges();
        for (int v = 0; v < 4; v++) {
            Check.due("view " + v, x.view(), v);
        }
        Check.due("a fifth view", x.view(), -4);
        Check.due("shut(2)", x.shut(2), 0);
        Check.due("shut(1)", x.shut(1), 0);
        Check.due("the least free one", x.view(), 1);
        Check.due("then the next", x.view(), 2);
        Check.due("none is free", x.view(), -4);
    }

    private static void viewsStay() {
        SegmentMerges x = new SegmentMerges();
        States.flushed(x, 1, 10, 2, 20);
        States.flushed(x, 3, 30);
        x.put(4, 40);
        x.put(0, 0);
        x.view();
        x.put(1, 11);
        x.drop(2);
        x.put(4, 41);
        x.drop(0);
        x.put(5, 50);
        x.view();
        x.flush();
        x.begin(0, 3);
        x.step(1000);
        int[] first = {0, 10, 20, 30, 40, -3};
        int[] second = {-3, 11, -3, 30, 41, 50};
        for (int key = 0; key < 6; key++) {
            Check.due("seen(0, " + key + ")", x.seen(0, key), first[key]);
            Check.due("seen(1, " + key + ")", x.seen(1, key), second[key]);
            Check.due("get(" + key + ")", x.get(key), second[key]);
        }
        x.shut(0);
        Check.due("shut leaves the other", x.seen(1, 1), 11);
        Check.due("a new view", x.view(), 0);
        Check.due("as all is now", x.seen(0, 2), -3);
    }

    private static void seenRefused() {
        SegmentMerges x = new SegmentMerges();
        Check.due("no view", x.seen(0, 0), -1);
        x.put(0, 7);
        x.view();
        Check.due("seen(0, 0)", x.seen(0, 0), 7);
        Check.due("seen(0, 99)", x.seen(0, 99), -3);
        Check.due("seen(0, 100)", x.seen(0, 100), -1);
        Check.due("seen(0, -1)", x.seen(0, -1), -1);
        Check.due("seen(1, 0)", x.seen(1, 0), -1);
        Check.due("seen(-1, 0)", x.seen(-1, 0), -1);
        Check.due("seen(4, 0)", x.seen(4, 0), -1);
        Check.due("seen(MIN, MAX)", x.seen(Integer.MIN_VALUE, Integer.MAX_VALUE), -1);
        x.shut(0);
        Check.due("shut, it is none", x.seen(0, 0), -1);
    }

    private static void shut() {
        SegmentMerges x = new SegmentMerges();
        x.put(1, 1);
        x.put(2, 2);
        x.put(3, 3);
        x.put(4, 0);
        x.view();
        x.view();
        x.put(1, 9);
        x.drop(2);
        x.put(99, 0);
        x.put(3, 3);
        x.drop(4);
        x.put(4, 0);
        Check.due("another value, none, one that had none", x.shut(0), 3);
        x.flush();
        Check.due("a flush changes no value", x.shut(1), 3);
        x.view();
        Check.due("nothing changed", x.shut(0), 0);
        x.view();
        for (int key = 50; key < 56; key++) {
            x.put(key, 0);
        }
        Check.due("value 0 is a value", x.shut(0), 6);
        x.flush();
        x.view();
        x.put(0, 1);
        x.drop(99);
        Check.due("the first key and the last", x.shut(0), 2);
    }

    private static void shutRefused() {
        SegmentMerges x = new SegmentMerges();
        Check.due("no view", x.shut(0), -1);
        x.view();
        Check.due("shut(1)", x.shut(1), -1);
        Check.due("shut(-1)", x.shut(-1), -1);
        Check.due("shut(4)", x.shut(4), -1);
        Check.due("shut(MIN)", x.shut(Integer.MIN_VALUE), -1);
        Check.due("shut(0)", x.shut(0), 0);
        Check.due("shut(0) again", x.shut(0), -1);
    }

    private static void share() {
        SegmentMerges x = new SegmentMerges();
        int thrown = Model.THROWN;
        Check.due("no segments", Check.shareOrThrown(x), thrown);
        x.put(1, 1);
        Check.due("rows in the memory alone", Check.shareOrThrown(x), thrown);
        x.put(2, 2);
        x.put(3, 3);
        x.flush();
        Check.due("all live", Check.shareOrThrown(x), 1000);
        x.drop(1);
        Check.due("2/3, cut", Check.shareOrThrown(x), 666);
        x.put(60, 6);
        Check.due("the memory does not count", Check.shareOrThrown(x), 666);
        States.flushed(x, 70, 7, 71, 7, 72, 7);
        Check.due("6/7, cut", Check.shareOrThrown(x), 857);
        for (int key = 0; key < 100; key++) {
            x.drop(key);
        }
        Check.due("all are dead", Check.shareOrThrown(x), 0);
        x.begin(0, 2);
        Check.due("while they are merged", Check.shareOrThrown(x), 0);
        x.step(1000);
        Check.due("no segments any more", Check.shareOrThrown(x), thrown);
    }
}

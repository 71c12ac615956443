/** Each sentence of the promises 7 to 9 that names a boundary case, in a test of its own. */
public final class SegmentsEdgesTest {
    private static final int MIN = Integer.MIN_VALUE;
    private static final int MAX = Integer.MAX_VALUE;

    public static void main(String[] args) {
        countMemory();
        countSegments();
        countRows();
        countLiving();
        countWritten();
        countKeys();
        countNoSuch();
        segmentNumber();
        segmentTier();
        segmentRows();
        segmentLiving();
        segmentOfTheMerge();
        segmentNoPlace();
        segmentNoWhat();
        rowFromZero();
        rowKey();
        rowValue();
        rowLives();
        rowNoPlace();
        rowNoRow();
        rowNoWhat();
        Check.finish();
    }

    private static void countMemory() {
        Check.says("Promise 7: How many ROWS THE MEMORY has (what = 0)");
        SegmentMerges x = new SegmentMerges();
        Check.due("empty", x.count(0), 0);
        States.fillMemory(x, 0);
        Check.due("full", x.count(0), 6);
        x.flush();
        Check.due("flushed", x.count(0), 0);
    }

    private static void countSegments() {
        Check.says("Promise 7: SEGMENTS (1)");
        Check.due("none", new SegmentMerges().count(1), 0);
        SegmentMerges x = States.ofSingles(20);
        Check.due("all", x.count(1), 20);
        x.begin(0, 6);
        x.step(5);
        Check.due("while merging", x.count(1), 20);
        x.step(1);
        Check.due("merged", x.count(1), 15);
    }

    private static void countRows() {
        Check.says("Promise 7: ROWS in these (2)");
        SegmentMerges x = new SegmentMerges();
        States.fillMemory(x, 0);
        Check.due("not those of the memory", x.count(2), 0);
        x.flush();
        x.put(0, 1);
        x.drop(1);
        Check.due("dead ones, too", x.count(2), 6);
        x.flush();
        x.begin(0, 2);
        x.step(6);
        Check.due("not what a merge has written so far", x.count(2), 7);
        x.step(1);
        Check.due("merged", x.count(2), 5);
    }

    private static void countLiving() {
        Check.says("Promise 7: living ones (3)");
        SegmentMerges x = States.ofSingles(2);
        x.put(60, 6);
        Check.due("not those of the memory", x.count(3), 2);
        x.begin(0, 2);
        x.step(1);
        Check.due("none twice while merging", x.count(3), 2);
        x.drop(0);
        Check.due("a taken one that died", x.count(3), 1);
        x.step(1);
        Check.due("merged", x.count(3), 1);
        x.drop(1);
        Check.due("all dead", x.count(3), 0);
    }

    private static void countWritten() {
        Check.says("Promise 7: WRITTEN (4)");
        SegmentMerges x = States.ofSingles(2);
        Check.due("flushed", x.count(4), 2);
        x.begin(0, 2);
        x.step(1);
        Check.due("a merge that goes on", x.count(4), 2);
        x.step(1);
        Check.due("ended", x.count(4), 4);
    }

    private static void countKeys() {
        Check.says("Promise 7: KEYS that have a VALUE (5)");
        SegmentMerges x = new SegmentMerges();
        Check.due("none", x.count(5), 0);
        x.put(0, 0);
        Check.due("in the memory", x.count(5), 1);
        x.flush();
        Check.due("in a segment", x.count(5), 1);
        x.put(0, 0);
        Check.due("one key, two rows", x.count(5), 1);
        x.drop(0);
        Check.due("dropped", x.count(5), 0);
        Check.due("all keys", States.ofAllKeys().count(5), 100);
    }

    private static void countNoSuch() {
        Check.says("Promise 7: -2");
        SegmentMerges x = States.ofSingles(3);
        int[] none = {MIN, -1, 6, 7, MAX};
        for (int what : none) {
            Check.due("count(" + what + ")", x.count(what), -2);
            Check.due("of a new object", new SegmentMerges().count(what), -2);
        }
    }

    private static void segmentNumber() {
        Check.says("Promise 8: 0 NUMBER");
        SegmentMerges x = States.ofSingles(20);
        Check.due("of the first", x.segment(0, 0), 0);
        Check.due("of the last", x.segment(19, 0), 19);
    }

    private static void segmentTier() {
        Check.says("Promise 8: 1 TIER");
        SegmentMerges x = States.ofSingles(3);
        Check.due("flushed", x.segment(0, 1), 0);
        States.merged(x, 0, 2);
        Check.due("merged", x.segment(0, 1), 1);
        Check.due("its neighbour", x.segment(1, 1), 0);
    }

    private static void segmentRows() {
        Check.says("Promise 8: 2 ROWS");
        SegmentMerges x = States.ofAllKeys();
        Check.due("six", x.segment(0, 2), 6);
        Check.due("the last four", x.segment(16, 2), 4);
        for (int key = 0; key < 6; key++) {
            x.drop(key);
        }
        Check.due("dead ones, too", x.segment(0, 2), 6);
    }

    private static void segmentLiving() {
        Check.says("Promise 8: 3 living ones");
        SegmentMerges x = new SegmentMerges();
        States.fillMemory(x, 0);
        x.flush();
        for (int key = 0; key < 6; key++) {
            Check.due("with " + key + " dead", x.segment(0, 3), 6 - key);
            x.drop(key);
            x.drop(key);
        }
        Check.due("all dead", x.segment(0, 3), 0);
    }

    private static void segmentOfTheMerge() {
        Check.says("Promise 8: 4 whether the MERGE that goes on is of it (1, 0)");
        SegmentMerges x = States.ofSingles(20);
        Check.due("none goes on", x.segment(14, 4), 0);
        x.begin(14, 6);
        Check.due("ahead of it", x.segment(13, 4), 0);
        Check.due("its first", x.segment(14, 4), 1);
        Check.due("its last", x.segment(19, 4), 1);
        x.stop();
        Check.due("given up", x.segment(14, 4), 0);
        x.begin(0, 2);
        Check.due("the first", x.segment(0, 4), 1);
        Check.due("the second", x.segment(1, 4), 1);
        Check.due("behind it", x.segment(2, 4), 0);
        x.step(2);
        Check.due("ended", x.segment(0, 4), 0);
        Check.due("ended, behind it", x.segment(1, 4), 0);
    }

    private static void segmentNoPlace() {
        Check.says("Promise 8: -1");
        Check.due("of a new object", new SegmentMerges().segment(0, 0), -1);
        SegmentMerges x = States.ofSingles(20);
        int[] none = {MIN, -1, 20, MAX};
        for (int place : none) {
            for (int what = 0; what <= 4; what++) {
                Check.due("segment(" + place + ", " + what + ")", x.segment(place, what), -1);
            }
        }
        States.merged(x, 0, 2);
        Check.due("a place that was", x.segment(19, 0), -1);
        Check.due("the last place", x.segment(18, 0), 19);
    }

    private static void segmentNoWhat() {
        Check.says("Promise 8: -2");
        SegmentMerges x = States.ofSingles(20);
        int[] none = {MIN, -1, 5, MAX};
        for (int what : none) {
            Check.due("segment(0, " + what + ")", x.segment(0, what), -2);
            Check.due("segment(19, " + what + ")", x.segment(19, what), -2);
            Check.due("segment(20, " + what + "): -1 first", x.segment(20, what), -1);
        }
    }

    private static void rowFromZero() {
        Check.says("Promise 9: Of a ROW of it, from 0");
        SegmentMerges x = new SegmentMerges();
        States.fillMemory(x, 0);
        x.flush();
        Check.due("the first", x.row(0, 0, 0), 0);
        Check.due("the last", x.row(0, 5, 0), 5);
    }

    private static void rowKey() {
        Check.says("Promise 9: 0 KEY");
        SegmentMerges x = States.ofAllKeys();
        Check.due("the least", x.row(0, 0, 0), 0);
        Check.due("the greatest", x.row(16, 3, 0), 99);
    }

    private static void rowValue() {
        Check.says("Promise 9: 1 VALUE");
        SegmentMerges x = new SegmentMerges();
        States.flushed(x, 4, 999, 5, 0);
        Check.due("the greatest", x.row(0, 0, 1), 999);
        Check.due("the least", x.row(0, 1, 1), 0);
        x.put(4, 1);
        Check.due("of a dead row", x.row(0, 0, 1), 999);
    }

    private static void rowLives() {
        Check.says("Promise 9: 2 whether it lives (1, 0)");
        SegmentMerges x = States.ofSingles(2);
        Check.due("living", x.row(0, 0, 2), 1);
        x.put(0, 0);
        Check.due("dead", x.row(0, 0, 2), 0);
        x.drop(0);
        Check.due("dead, its newer row gone", x.row(0, 0, 2), 0);
        x.begin(0, 2);
        x.step(1);
        x.drop(1);
        Check.due("died while merging, not yet taken", x.row(1, 0, 2), 0);
    }

    private static void rowNoPlace() {
        Check.says("Promise 9: -1");
        Check.due("of a new object", new SegmentMerges().row(0, 0, 0), -1);
        SegmentMerges x = States.ofSingles(20);
        int[] none = {MIN, -1, 20, MAX};
        for (int place : none) {
            Check.due("row(" + place + ", 0, 0)", x.row(place, 0, 0), -1);
        }
        Check.due("row(19, 0, 0)", x.row(19, 0, 0), 19);
    }

    private static void rowNoRow() {
        Check.says("Promise 9: -1");
        SegmentMerges x = States.ofAllKeys();
        int[] none = {MIN, -1, 6, MAX};
        for (int i : none) {
            for (int what = 0; what <= 2; what++) {
                Check.due("row(0, " + i + ", " + what + ")", x.row(0, i, what), -1);
            }
        }
        Check.due("of a shorter one", x.row(16, 4, 0), -1);
        States.merged(x, 0, 6);
        Check.due("the last of a long one", x.row(0, 35, 0), 35);
        Check.due("behind it", x.row(0, 36, 0), -1);
    }

    private static void rowNoWhat() {
        Check.says("Promise 9: -2");
        SegmentMerges x = States.ofAllKeys();
        int[] none = {MIN, -1, 3, MAX};
        for (int what : none) {
            Check.due("row(0, 0, " + what + ")", x.row(0, 0, what), -2);
            Check.due("row(16, 3, " + what + ")", x.row(16, 3, what), -2);
            Check.due("row(16, 4, " + what + "): -1 first", x.row(16, 4, what), -1);
            Check.due("row(17, 0, " + what + "): -1 first", x.row(17, 0, what), -1);
        }
    }
}

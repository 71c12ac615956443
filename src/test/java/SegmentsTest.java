/** Promises 7 to 9: count, segment, row. */
public final class SegmentsTest {
    public static void main(String[] args) {
        counts();
        writtenCountsMerges();
        segments();
        segmentsWhileMerging();
        rows();
        Check.finish();
    }

    private static void counts() {
        SegmentMerges x = new SegmentMerges();
        States.flushed(x, 1, 1, 2, 2, 3, 3);
        States.flushed(x, 3, 4, 5, 5);
        x.put(1, 9);
        x.put(60, 6);
        x.drop(2);
        Check.due("count(0)", x.count(0), 2);
        Check.due("count(1)", x.count(1), 2);
        Check.due("count(2), dead ones, too", x.count(2), 5);
        Check.due("count(3)", x.count(3), 2);
        Check.due("count(4)", x.count(4), 5);
        Check.due("count(5)", x.count(5), 4);
        Check.due("count(-1)", x.count(-1), -2);
        Check.due("count(6)", x.count(6), -2);
        Check.due("count(MIN)", x.count(Integer.MIN_VALUE), -2);
        Check.due("count(MAX)", x.count(Integer.MAX_VALUE), -2);
    }

    private static void writtenCountsMerges() {
        SegmentMerges x = new SegmentMerges();
        States.flushed(x, 1, 1, 2, 2);
        States.flushed(x, 3, 3);
        x.drop(2);
        x.begin(0, 2);
        x.step(2);
        Check.due("WRITTEN waits for the end", x.count(4), 3);
        x.stop();
        Check.due("given up, what it wrote counts", x.count(4), 4);
        x.begin(0, 2);
        x.stop();
        Check.due("given up before it wrote", x.count(4), 4);
        x.begin(0, 2);
        x.step(1);
        x.drop(1);
        x.step(2);
        Check.due("ended: a written row that died since counts", x.count(4), 6);
        Check.due("rows in segments", x.count(2), 2);
        Check.due("living ones", x.count(3), 1);
    }

    private static void segments() {
        SegmentMerges x = new SegmentMerges();
        States.flushed(x, 1, 1, 2, 2, 3, 3);
        States.flushed(x, 4, 4);
        x.drop(2);
        Check.due("number", x.segment(1, 0), 1);
        Check.due("tier", x.segment(1, 1), 0);
        Check.due("rows", x.segment(0, 2), 3);
        Check.due("living", x.segment(0, 3), 2);
        Check.due("no merge", x.segment(0, 4), 0);
        Check.due("segment(-1, 0)", x.segment(-1, 0), -1);
        Check.due("segment(2, 0)", x.segment(2, 0), -1);
        Check.due("segment(20, 0)", x.segment(20, 0), -1);
        Check.due("segment(MIN, 9): -1 first", x.segment(Integer.MIN_VALUE, 9), -1);
        Check.due("segment(MAX, 0)", x.segment(Integer.MAX_VALUE, 0), -1);
        Check.due("segment(0, -1)", x.segment(0, -1), -2);
        Check.due("segment(0, 5)", x.segment(0, 5), -2);
    }

    private static void segmentsWhileMerging() {
        SegmentMerges x = new SegmentMerges();
        for (int s = 0; s < 5; s++) {
            States.flushed(x, s, s);
        }
        x.begin(1, 3);
        int[] due = {0, 1, 1, 1, 0};
        for (int s = 0; s < 5; s++) {
            Check.due("segment(" + s + ", 4)", x.segment(s, 4), due[s]);
        }
        States.flushed(x, 9, 9);
        Check.due("a flushed one is not of it", x.segment(5, 4), 0);
        x.stop();
        for (int s = 0; s < 6; s++) {
            Check.due("given up: segment(" + s + ", 4)", x.segment(s, 4), 0);
        }
        x.begin(1, 3);
        x.step(3);
        for (int s = 0; s < 4; s++) {
            Check.due("ended: segment(" + s + ", 4)", x.segment(s, 4), 0);
        }
        Check.due("four are left", x.segment(4, 4), -1);
    }

    private static void rows() {
        SegmentMerges x = new SegmentMerges();
        States.flushed(x, 99, 999, 0, 0);
        x.drop(99);
        Check.due("key", x.row(0, 0, 0), 0);
        Check.due("value", x.row(0, 0, 1), 0);
        Check.due("lives", x.row(0, 0, 2), 1);
        Check.due("key of a dead one", x.row(0, 1, 0), 99);
        Check.due("value of a dead one", x.row(0, 1, 1), 999);
        Check.due("dead", x.row(0, 1, 2), 0);
        Check.due("row(0, 2, 0)", x.row(0, 2, 0), -1);
        Check.due("row(0, -1, 0)", x.row(0, -1, 0), -1);
        Check.due("row(1, 0, 0)", x.row(1, 0, 0), -1);
        Check.due("row(-1, 0, 0)", x.row(-1, 0, 0), -1);
        Check.due("row(0, 2, 3): -1 first", x.row(0, 2, 3), -1);
        Check.due("row(1, 0, 3): -1 first", x.row(1, 0, 3), -1);
        Check.due("row(0, 0, 3)", x.row(0, 0, 3), -2);
        Check.due("row(0, 0, -1)", x.row(0, 0, -1), -2);
        Check.due("row(MAX, MIN, MAX)", x.row(Integer.MAX_VALUE, Integer.MIN_VALUE, Integer.MAX_VALUE), -1);
    }
}

/** Promises 14 to 18: begin, step, stop, merging, moved. */
public final class MergingTest {
    public static void main(String[] args) {
        beginRefused();
        beginOrdinary();
        beginOfSix();
        stepRefused();
        stepTakesLeastKeyFirst();
        stepEndsAtOnce();
        newSegmentStandsWhereTheOthersStood();
        tierIsOneMoreThanTheGreatest();
        rowsThatDieWhileMerging();
        sameValueWhileMerging();
        nothingWritten();
        stop();
        stopKeepsDeadRows();
        merging();
        moved();
        movedOfTheLatestThatEnded();
        movedWhenNothingWasWritten();
        Check.finish();
    }

    private static void beginRefused() {
        SegmentMerges x = States.ofSingles(3);
        Check.due("begin(-1, 2)", x.begin(-1, 2), -1);
        Check.due("begin(3, 2)", x.begin(3, 2), -1);
        Check.due("begin(3, 9): no such place first", x.begin(3, 9), -1);
        Check.due("begin(0, 1)", x.begin(0, 1), -2);
        Check.due("begin(0, 7): -2 ahead of the last one", x.begin(0, 7), -2);
        Check.due("begin(2, 1)", x.begin(2, 1), -2);
        Check.due("begin(0, MAX)", x.begin(0, Integer.MAX_VALUE), -2);
        Check.due("begin(0, MIN)", x.begin(0, Integer.MIN_VALUE), -2);
        Check.due("begin(MAX, 6)", x.begin(Integer.MAX_VALUE, 6), -1);
        Check.due("begin(2, 2)", x.begin(2, 2), -1);
        Check.due("begin(0, 4)", x.begin(0, 4), -1);
        Check.due("none goes on", x.merging(0), -3);
        Check.due("begin(1, 2)", x.begin(1, 2), 2);
        Check.due("one goes on", x.begin(0, 2), -3);
        Check.due("-1 ahead of -3", x.begin(3, 2), -1);
        Check.due("-2 ahead of -3", x.begin(0, 1), -2);
        Check.due("-1 of the last one ahead of -3", x.begin(2, 2), -1);
        Check.due("the first goes on", x.merging(3), 1);
    }

    private static void beginOrdinary() {
        SegmentMerges x = new SegmentMerges();
        States.flushed(x, 1, 1, 2, 2, 3, 3);
        States.flushed(x, 1, 4, 5, 5);
        x.drop(2);
        Check.due("dead ones are taken, too", x.begin(0, 2), 5);
        Check.due("count(1) stays", x.count(1), 2);
    }

    private static void beginOfSix() {
        SegmentMerges x = States.ofSingles(20);
        Check.due("begin(15, 6)", x.begin(15, 6), -1);
        Check.due("begin(14, 6)", x.begin(14, 6), 6);
        Check.due("step", x.step(1000), 6);
        Check.due("count(1)", x.count(1), 15);
        Check.due("rows", x.segment(14, 2), 6);
        Check.due("the one ahead", x.segment(13, 0), 13);
        Check.due("number", x.segment(14, 0), 20);
    }

    private static void stepRefused() {
        SegmentMerges x = States.ofSingles(2);
        Check.due("step(0) of none", x.step(0), -3);
        Check.due("step(1) of none", x.step(1), -3);
        Check.due("step(-1): -2 first", x.step(-1), -2);
        Check.due("step(1001): -2 first", x.step(1001), -2);
        x.begin(0, 2);
        Check.due("step(-1)", x.step(-1), -2);
        Check.due("step(1001)", x.step(1001), -2);
        Check.due("step(MAX)", x.step(Integer.MAX_VALUE), -2);
        Check.due("nothing taken", x.merging(0), 0);
        Check.due("step(0)", x.step(0), 0);
        Check.due("step(1000)", x.step(1000), 2);
        Check.due("it ended", x.step(0), -3);
    }

    private static void stepTakesLeastKeyFirst() {
        SegmentMerges x = new SegmentMerges();
        States.flushed(x, 10, 1, 30, 2, 50, 3);
        States.flushed(x, 20, 4, 30, 5, 40, 6);
        States.flushed(x, 5, 7, 30, 8, 60, 9);
        x.begin(0, 3);
        // 5, 10, 20, 30 dead, 30 dead, 30 living, 40, 50, 60
        int[] written = {1, 2, 3, 3, 3, 4, 5, 6};
        for (int t = 0; t < written.length; t++) {
            Check.due("step " + t, x.step(1), 1);
            Check.due("taken at " + t, x.merging(0), t + 1);
            Check.due("written at " + t, x.merging(1), written[t]);
            Check.due("left at " + t, x.merging(2), 8 - t);
        }
        Check.due("the last", x.step(1), 1);
        int[] keys = {5, 10, 20, 30, 40, 50, 60};
        int[] values = {7, 1, 4, 8, 6, 3, 9};
        Check.due("rows", x.segment(0, 2), 7);
        for (int i = 0; i < keys.length; i++) {
            Check.due("key of " + i, x.row(0, i, 0), keys[i]);
            Check.due("value of " + i, x.row(0, i, 1), values[i]);
            Check.due("life of " + i, x.row(0, i, 2), 1);
        }
    }

    /** Two rows of one key: the dead one of the eldest is taken first, so the living one can still die untaken. */
    private static void stepEndsAtOnce() {
        SegmentMerges x = new SegmentMerges();
        States.flushed(x, 1, 1);
        States.flushed(x, 1, 2);
        x.begin(0, 2);
        Check.due("the eldest's", x.step(1), 1);
        Check.due("it was dead", x.merging(1), 0);
        Check.due("one is left", x.merging(2), 1);
        Check.due("the last one", x.step(1), 1);
        Check.due("it ended at once", x.merging(0), -3);
        Check.due("one segment", x.count(1), 1);
        Check.due("its value", x.row(0, 0, 1), 2);
        Check.due("get", x.get(1), 2);
    }

    private static void newSegmentStandsWhereTheOthersStood() {
        SegmentMerges x = States.ofSingles(5);
        x.begin(1, 3);
        x.step(1);
        States.flushed(x, 50, 5);
        Check.due("the flushed one stands last", x.segment(5, 0), 5);
        x.step(2);
        int[] numbers = {0, 6, 4, 5};
        Check.due("count(1)", x.count(1), 4);
        for (int s = 0; s < 4; s++) {
            Check.due("number at " + s, x.segment(s, 0), numbers[s]);
        }
        Check.due("no fifth", x.segment(4, 0), -1);
        for (int key = 0; key < 5; key++) {
            Check.due("get(" + key + ")", x.get(key), 10 * key);
        }
        x.put(2, 7);
        Check.due("a put kills in the new segment", x.row(1, 1, 2), 0);
    }

    private static void tierIsOneMoreThanTheGreatest() {
        SegmentMerges x = States.ofSingles(6);
        x.begin(1, 2);
        x.step(1000);
        Check.due("0 and 0", x.segment(1, 1), 1);
        x.begin(0, 3);
        x.step(1000);
        Check.due("0, 1 and 0", x.segment(0, 1), 2);
        x.begin(0, 2);
        x.step(1000);
        Check.due("2 and 0", x.segment(0, 1), 3);
    }

    private static void rowsThatDieWhileMerging() {
        SegmentMerges x = new SegmentMerges();
        States.flushed(x, 1, 1, 2, 2, 3, 3);
        States.flushed(x, 4, 4, 5, 5, 6, 6);
        x.begin(0, 2);
        x.step(3);
        x.drop(1);
        x.put(2, 22);
        x.drop(4);
        x.put(5, 55);
        Check.due("taken and died: dead in the old one", x.row(0, 0, 2), 0);
        Check.due("written stays", x.merging(1), 3);
        Check.due("the rest", x.step(1000), 3);
        int[] keys = {1, 2, 3, 6};
        int[] lives = {0, 0, 1, 1};
        Check.due("rows", x.segment(0, 2), 4);
        Check.due("living", x.segment(0, 3), 2);
        for (int i = 0; i < 4; i++) {
            Check.due("key of " + i, x.row(0, i, 0), keys[i]);
            Check.due("life of " + i, x.row(0, i, 2), lives[i]);
        }
        Check.due("value of a dead one", x.row(0, 1, 1), 2);
        Check.due("get(2)", x.get(2), 22);
        Check.due("get(5)", x.get(5), 55);
        Check.due("get(1)", x.get(1), -3);
        Check.due("keys with a value", x.count(5), 4);
    }

    private static void sameValueWhileMerging() {
        SegmentMerges x = States.ofSingles(2);
        x.begin(0, 2);
        x.step(1);
        x.put(0, 0);
        x.step(1);
        Check.due("put of the same value kills the written row", x.row(0, 0, 2), 0);
        Check.due("the other lives", x.row(0, 1, 2), 1);
        x = States.ofSingles(2);
        x.begin(0, 2);
        x.step(1);
        x.put(0, 3);
        x.drop(0);
        x.step(1);
        Check.due("put and drop kill it", x.row(0, 0, 2), 0);
        Check.due("get(0)", x.get(0), -3);
    }

    private static void nothingWritten() {
        SegmentMerges x = States.ofSingles(4);
        x.drop(1);
        x.drop(2);
        x.begin(1, 2);
        Check.due("step", x.step(5), 2);
        Check.due("no new segment", x.count(1), 2);
        Check.due("the one ahead", x.segment(0, 0), 0);
        Check.due("the one behind", x.segment(1, 0), 3);
        Check.due("no number is used", States.flushed(x, 60, 6), 4);
        x = States.ofSingles(2);
        x.begin(0, 2);
        x.step(1);
        x.drop(0);
        x.drop(1);
        x.step(1);
        Check.due("a written row that died since makes a segment", x.count(1), 1);
        Check.due("of a dead row", x.segment(0, 3), 0);
        Check.due("of one row", x.segment(0, 2), 1);
        Check.due("with a number", x.segment(0, 0), 2);
    }

    private static void stop() {
        SegmentMerges x = States.ofSingles(3);
        Check.due("stop of none", x.stop(), -3);
        x.begin(0, 3);
        Check.due("stop at once", x.stop(), 0);
        Check.due("stop again", x.stop(), -3);
        x.drop(0);
        x.begin(0, 3);
        x.step(2);
        Check.due("stop: taken, dead ones, too", x.stop(), 2);
        Check.due("the segments stay", x.count(1), 3);
        Check.due("their rows, too", x.count(2), 3);
        Check.due("no number was used", States.flushed(x, 9, 9), 3);
        Check.due("a new one begins at the first row", x.begin(0, 4), 4);
        Check.due("nothing taken of it", x.merging(0), 0);
        x.step(4);
        Check.due("stop behind the end", x.stop(), -3);
    }

    private static void stopKeepsDeadRows() {
        SegmentMerges x = States.ofSingles(2);
        x.begin(0, 2);
        x.step(1);
        x.drop(0);
        x.stop();
        Check.due("dead stays dead", x.row(0, 0, 2), 0);
        x.begin(0, 2);
        x.step(2);
        Check.due("it is not written the second time", x.segment(0, 2), 1);
        Check.due("where it went", x.moved(0, 0), -3);
        Check.due("where the other went", x.moved(1, 0), 0);
    }

    private static void merging() {
        SegmentMerges x = States.ofSingles(5);
        Check.due("merging(0) of none", x.merging(0), -3);
        Check.due("merging(-1): -2 first", x.merging(-1), -2);
        Check.due("merging(4): -2 first", x.merging(4), -2);
        x.drop(3);
        x.begin(2, 3);
        int[] atFirst = {0, 0, 3, 2};
        for (int what = 0; what < 4; what++) {
            Check.due("at first merging(" + what + ")", x.merging(what), atFirst[what]);
        }
        x.step(2);
        int[] thereafter = {2, 1, 1, 2};
        for (int what = 0; what < 4; what++) {
            Check.due("then merging(" + what + ")", x.merging(what), thereafter[what]);
        }
        Check.due("merging(-1)", x.merging(-1), -2);
        Check.due("merging(4)", x.merging(4), -2);
        x.stop();
        Check.due("given up", x.merging(3), -3);
    }

    private static void moved() {
        SegmentMerges x = new SegmentMerges();
        States.flushed(x, 1, 1, 3, 3, 5, 5);
        States.flushed(x, 2, 2, 3, 4, 4, 4);
        States.flushed(x, 9, 9);
        x.begin(0, 2);
        x.step(1);
        Check.due("while it goes on", x.moved(0, 0), -1);
        x.drop(1);
        x.step(1000);
        int[] eldest = {0, -3, 4};
        int[] younger = {1, 2, 3};
        for (int i = 0; i < 3; i++) {
            Check.due("moved(0, " + i + ")", x.moved(0, i), eldest[i]);
            Check.due("moved(1, " + i + ")", x.moved(1, i), younger[i]);
        }
        Check.due("no such row", x.moved(0, 3), -1);
        Check.due("row -1", x.moved(0, -1), -1);
        Check.due("row MAX", x.moved(1, Integer.MAX_VALUE), -1);
        Check.due("not of it", x.moved(2, 0), -1);
        Check.due("the new one", x.moved(3, 0), -1);
        Check.due("number -1", x.moved(-1, 0), -1);
        Check.due("number MIN", x.moved(Integer.MIN_VALUE, Integer.MIN_VALUE), -1);
    }

    private static void movedOfTheLatestThatEnded() {
        SegmentMerges x = States.ofSingles(4);
        x.begin(0, 2);
        x.step(2);
        x.begin(0, 2);
        x.step(1);
        Check.due("the one that goes on does not count", x.moved(1, 0), 1);
        Check.due("nor its segments", x.moved(4, 0), -1);
        x.stop();
        Check.due("nor one given up", x.moved(1, 0), 1);
        Check.due("nor the segments of that", x.moved(2, 0), -1);
        x.drop(0);
        x.begin(0, 2);
        x.step(3);
        Check.due("the latest: of the merged one", x.moved(4, 0), -3);
        Check.due("its second row", x.moved(4, 1), 0);
        Check.due("and of its neighbour", x.moved(2, 0), 1);
        Check.due("the former is gone", x.moved(1, 0), -1);
    }

    private static void movedWhenNothingWasWritten() {
        SegmentMerges x = States.ofSingles(4);
        x.begin(0, 2);
        x.step(2);
        x.drop(2);
        x.drop(3);
        x.begin(1, 2);
        x.step(2);
        Check.due("not written", x.moved(2, 0), -3);
        Check.due("not written, too", x.moved(3, 0), -3);
        Check.due("no such row", x.moved(2, 1), -1);
        Check.due("the former merge is not the latest", x.moved(0, 0), -1);
    }
}

/** Each sentence of the promises 14 to 18 that names a boundary case, in a test of its own. */
public final class MergingEdgesTest {
    private static final int MIN = Integer.MIN_VALUE;
    private static final int MAX = Integer.MAX_VALUE;

    public static void main(String[] args) {
        beginRowsToTake();
        beginNoPlace();
        beginOutside();
        beginLastIsNone();
        beginOneGoesOn();
        stepUpTo();
        stepHowMany();
        stepOutside();
        stepNoneGoesOn();
        stopHowMany();
        stopGivesUp();
        stopNoneGoesOn();
        mergingTaken();
        mergingWritten();
        mergingLeft();
        mergingPlace();
        mergingOutside();
        mergingNoneGoesOn();
        movedPlace();
        movedLatestThatEnded();
        movedNotWritten();
        movedNoSegment();
        movedNoRow();
        Check.finish();
    }

    private static void beginRowsToTake() {
        Check.says("Promise 14: how many ROWS it will take");
        SegmentMerges x = States.ofSingles(2);
        Check.due("the fewest", x.begin(0, 2), 2);
        x = States.ofAllKeys();
        x.drop(0);
        x.drop(35);
        Check.due("six of six, dead ones, too", x.begin(0, 6), 36);
        x.stop();
        Check.due("the last six", x.begin(11, 6), 34);
    }

    private static void beginNoPlace() {
        Check.says("Promise 14: -1 no such place");
        Check.due("of a new object", new SegmentMerges().begin(0, 2), -1);
        SegmentMerges x = States.ofSingles(4);
        int[] none = {MIN, -1, 4, 20, MAX};
        int[] counts = {MIN, -1, 0, 1, 2, 6, 7, MAX};
        for (int place : none) {
            for (int n : counts) {
                Check.due("begin(" + place + ", " + n + ")", x.begin(place, n), -1);
            }
        }
        Check.due("none goes on", x.merging(0), -3);
    }

    private static void beginOutside() {
        Check.says("Promise 14: -2");
        SegmentMerges x = States.ofSingles(8);
        int[] counts = {MIN, -1, 0, 1, 7, 8, MAX};
        for (int n : counts) {
            Check.due("begin(0, " + n + ")", x.begin(0, n), -2);
            Check.due("begin(7, " + n + "), ahead of the last one", x.begin(7, n), -2);
        }
        Check.due("none goes on", x.merging(0), -3);
    }

    private static void beginLastIsNone() {
        Check.says("Promise 14: -1 the last one of them is none");
        SegmentMerges x = States.ofSingles(20);
        for (int n = 2; n <= 6; n++) {
            Check.due("begin(" + (21 - n) + ", " + n + ")", x.begin(21 - n, n), -1);
            Check.due("begin(19, " + n + ")", x.begin(19, n), -1);
            Check.due("begin(" + (20 - n) + ", " + n + ")", x.begin(20 - n, n), n);
            x.stop();
        }
        x = States.ofSingles(1);
        Check.due("of one segment", x.begin(0, 2), -1);
        Check.due("none goes on", x.merging(0), -3);
    }

    private static void beginOneGoesOn() {
        Check.says("Promise 14: -3 one goes on");
        SegmentMerges x = States.ofSingles(5);
        x.begin(0, 2);
        Check.due("with it", x.begin(1, 2), -3);
        Check.due("beside it", x.begin(3, 2), -3);
        Check.due("no such place comes first", x.begin(5, 2), -1);
        Check.due("-2 comes first", x.begin(0, 7), -2);
        Check.due("no such last one comes first", x.begin(4, 2), -1);
        Check.due("the first goes on", x.step(1000), 2);
    }

    private static void stepUpTo() {
        Check.says("Promise 15: It takes up to n ROWS (0 to 1000)");
        int[] counts = {0, 1, 2, 3, 4, 1000};
        for (int n : counts) {
            SegmentMerges x = States.ofSingles(3);
            x.begin(0, 3);
            x.step(n);
            Check.due("left behind step(" + n + ")", x.merging(2), n < 3 ? 3 - n : -3);
        }
    }

    private static void stepHowMany() {
        Check.says("Promise 15: how many");
        int[] counts = {0, 1, 2, 3, 4, 1000};
        for (int n : counts) {
            SegmentMerges x = States.ofSingles(3);
            x.drop(1);
            x.begin(0, 3);
            Check.due("step(" + n + ") of three", x.step(n), Math.min(n, 3));
        }
        SegmentMerges x = States.ofSingles(3);
        x.begin(0, 3);
        x.step(2);
        Check.due("step(2) of one left", x.step(2), 1);
    }

    private static void stepOutside() {
        Check.says("Promise 15: -2");
        int[] none = {MIN, -1, 1001, MAX};
        for (int n : none) {
            SegmentMerges x = States.ofSingles(3);
            Check.due("none goes on, -2 first: step(" + n + ")", x.step(n), -2);
            x.begin(0, 3);
            Check.due("step(" + n + ")", x.step(n), -2);
            Check.due("nothing taken", x.merging(0), 0);
        }
    }

    private static void stepNoneGoesOn() {
        Check.says("Promise 15: -3 none goes on");
        SegmentMerges x = States.ofSingles(3);
        Check.due("never", x.step(0), -3);
        Check.due("never", x.step(1000), -3);
        x.begin(0, 2);
        x.stop();
        Check.due("given up", x.step(1), -3);
        States.merged(x, 0, 2);
        Check.due("ended", x.step(0), -3);
    }

    private static void stopHowMany() {
        Check.says("Promise 16: how many ROWS it had taken");
        for (int n = 0; n < 3; n++) {
            SegmentMerges x = States.ofSingles(3);
            x.drop(0);
            x.begin(0, 3);
            x.step(n);
            Check.due("behind step(" + n + ")", x.stop(), n);
        }
    }

    private static void stopGivesUp() {
        Check.says("Promise 16: It is given up");
        SegmentMerges x = States.ofSingles(3);
        x.begin(0, 3);
        x.step(2);
        x.put(0, 7);
        x.stop();
        Check.due("none goes on", x.merging(0), -3);
        for (int place = 0; place < 3; place++) {
            Check.due("number at " + place, x.segment(place, 0), place);
            Check.due("tier at " + place, x.segment(place, 1), 0);
            Check.due("rows at " + place, x.segment(place, 2), 1);
            Check.due("life at " + place, x.row(place, 0, 2), place == 0 ? 0 : 1);
        }
        Check.due("segments", x.count(1), 3);
        Check.due("the next takes all from the first on", x.begin(0, 3), 3);
        Check.due("taken", x.merging(0), 0);
        Check.due("written", x.merging(1), 0);
        x.step(1000);
        Check.due("rows that lived", x.segment(0, 2), 2);
        Check.due("the dead one", x.moved(0, 0), -3);
        Check.due("the first written", x.moved(1, 0), 0);
        Check.due("no number was used by the one given up", x.segment(0, 0), 3);
    }

    private static void stopNoneGoesOn() {
        Check.says("Promise 16: -3");
        SegmentMerges x = States.ofSingles(2);
        Check.due("never", x.stop(), -3);
        x.begin(0, 2);
        x.stop();
        Check.due("given up", x.stop(), -3);
        States.merged(x, 0, 2);
        Check.due("ended", x.stop(), -3);
        Check.due("the new one stays", x.count(1), 1);
        Check.due("written", x.count(4), 4);
    }

    private static void mergingTaken() {
        Check.says("Promise 17: 0 ROWS taken");
        SegmentMerges x = States.ofSingles(3);
        x.drop(1);
        x.begin(0, 3);
        for (int taken = 0; taken < 3; taken++) {
            Check.due("dead ones, too", x.merging(0), taken);
            x.step(1);
        }
    }

    private static void mergingWritten() {
        Check.says("Promise 17: 1 written");
        SegmentMerges x = States.ofSingles(4);
        x.drop(1);
        x.begin(0, 4);
        int[] written = {0, 1, 1, 2};
        for (int taken = 0; taken < 4; taken++) {
            Check.due("behind " + taken, x.merging(1), written[taken]);
            x.step(1);
        }
        x = States.ofSingles(2);
        x.begin(0, 2);
        x.step(1);
        x.drop(0);
        Check.due("though it died since", x.merging(1), 1);
    }

    private static void mergingLeft() {
        Check.says("Promise 17: 2 left to take");
        SegmentMerges x = States.ofSingles(3);
        x.begin(0, 3);
        Check.due("at first", x.merging(2), 3);
        x.drop(2);
        Check.due("a dead one is left to take, too", x.merging(2), 3);
        x.step(2);
        Check.due("the last one", x.merging(2), 1);
        States.flushed(x, 50, 5);
        Check.due("what is flushed is none of it", x.merging(2), 1);
    }

    private static void mergingPlace() {
        Check.says("Promise 17: 3 the place of its eldest");
        SegmentMerges x = States.ofSingles(20);
        int[] places = {0, 1, 17, 18};
        for (int place : places) {
            x.begin(place, 2);
            Check.due("of place " + place, x.merging(3), place);
            x.step(1);
            Check.due("of place " + place + " still", x.merging(3), place);
            x.stop();
        }
    }

    private static void mergingOutside() {
        Check.says("Promise 17: -2");
        SegmentMerges x = States.ofSingles(2);
        int[] none = {MIN, -1, 4, MAX};
        for (int what : none) {
            Check.due("none goes on, -2 first: merging(" + what + ")", x.merging(what), -2);
        }
        x.begin(0, 2);
        for (int what : none) {
            Check.due("merging(" + what + ")", x.merging(what), -2);
        }
    }

    private static void mergingNoneGoesOn() {
        Check.says("Promise 17: -3");
        SegmentMerges x = States.ofSingles(2);
        for (int what = 0; what <= 3; what++) {
            Check.due("never: merging(" + what + ")", x.merging(what), -3);
        }
        x.begin(0, 2);
        x.stop();
        Check.due("given up", x.merging(3), -3);
        States.merged(x, 0, 2);
        for (int what = 0; what <= 3; what++) {
            Check.due("ended: merging(" + what + ")", x.merging(what), -3);
        }
    }

    private static void movedPlace() {
        Check.says("Promise 18: its place in the new one");
        SegmentMerges x = new SegmentMerges();
        States.flushed(x, 0, 0, 3, 0, 99, 0);
        States.flushed(x, 1, 0, 2, 0, 98, 0);
        x.begin(0, 2);
        x.step(5);
        x.drop(98);
        x.step(1);
        int[] elder = {0, 3, 5};
        int[] younger = {1, 2, 4};
        for (int i = 0; i < 3; i++) {
            Check.due("moved(0, " + i + ")", x.moved(0, i), elder[i]);
            Check.due("moved(1, " + i + ")", x.moved(1, i), younger[i]);
        }
        x.drop(0);
        Check.due("a row that died in the new one", x.moved(0, 0), 0);
    }

    private static void movedLatestThatEnded() {
        Check.says("Promise 18: in the latest MERGE that ENDED");
        SegmentMerges x = States.ofSingles(5);
        x.begin(0, 2);
        x.step(1);
        Check.due("one that goes on", x.moved(0, 0), -1);
        x.stop();
        Check.due("one given up", x.moved(0, 0), -1);
        States.merged(x, 0, 2);
        Check.due("one that ended", x.moved(1, 0), 1);
        x.begin(0, 2);
        x.step(1);
        Check.due("while another goes on", x.moved(1, 0), 1);
        x.stop();
        Check.due("when another was given up", x.moved(1, 0), 1);
        States.merged(x, 1, 2);
        Check.due("when another ended", x.moved(1, 0), -1);
        Check.due("that one", x.moved(3, 0), 1);
    }

    private static void movedNotWritten() {
        Check.says("Promise 18: -3 it was not written");
        SegmentMerges x = States.ofSingles(3);
        x.drop(0);
        x.begin(0, 3);
        x.step(1);
        x.drop(0);
        x.put(2, 7);
        x.step(2);
        Check.due("dead before it began", x.moved(0, 0), -3);
        Check.due("written", x.moved(1, 0), 0);
        Check.due("dead before it was taken", x.moved(2, 0), -3);
        x.drop(1);
        x.flush();
        x.drop(2);
        States.merged(x, 0, 2);
        Check.due("nothing was written", x.moved(3, 0), -3);
        Check.due("of both", x.moved(4, 0), -3);
    }

    private static void movedNoSegment() {
        Check.says("Promise 18: -1 that was not of such a SEGMENT");
        Check.due("none ended", new SegmentMerges().moved(0, 0), -1);
        SegmentMerges x = States.ofSingles(5);
        States.merged(x, 1, 3);
        int[] none = {MIN, -1, 0, 4, 5, 6, MAX};
        for (int number : none) {
            Check.due("moved(" + number + ", 0)", x.moved(number, 0), -1);
        }
        for (int number = 1; number <= 3; number++) {
            Check.due("moved(" + number + ", 0)", x.moved(number, 0), number - 1);
        }
    }

    private static void movedNoRow() {
        Check.says("Promise 18: no such ROW");
        SegmentMerges x = new SegmentMerges();
        States.fillMemory(x, 0);
        x.flush();
        States.flushed(x, 50, 5);
        States.merged(x, 0, 2);
        int[] none = {MIN, -1, 6, MAX};
        for (int i : none) {
            Check.due("moved(0, " + i + ")", x.moved(0, i), -1);
        }
        Check.due("the last", x.moved(0, 5), 5);
        Check.due("of a shorter one", x.moved(1, 1), -1);
        Check.due("its only one", x.moved(1, 0), 6);
    }
}

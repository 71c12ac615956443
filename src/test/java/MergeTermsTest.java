/** Each sentence of "Terms" about a merge that names a boundary case, in a test of its own. */
public final class MergeTermsTest {
    public static void main(String[] args) {
        twoToSixNeighbours();
        oneAtATime();
        leastKeyFirst();
        ofLikeOnesTheEldest();
        deadOnesToo();
        whatLivesWhenTaken();
        endsAtOnce();
        standsWhereTheOthersStood();
        standsFirstOrLast();
        tierIsOneMoreThanTheGreatest();
        numberIsTheNext();
        deadByAnotherValue();
        deadByTheSameValue();
        deadByNone();
        refusedPutKillsNothing();
        nothingWritten();
        allWrittenDiedSince();
        Check.finish();
    }

    private static void twoToSixNeighbours() {
        Check.says("A MERGE is of 2 to 6 neighbours in THE ROW");
        for (int n = 2; n <= 6; n++) {
            SegmentMerges x = States.ofSingles(8);
            Check.due("begin(1, " + n + ")", x.begin(1, n), n);
            for (int place = 0; place < 8; place++) {
                Check.due("of " + n + ": segment(" + place + ", 4)", x.segment(place, 4),
                        place >= 1 && place <= n ? 1 : 0);
            }
            Check.due("step", x.step(1000), n);
            Check.due("segments behind a merge of " + n, x.count(1), 9 - n);
        }
        SegmentMerges x = States.ofSingles(8);
        Check.due("begin(0, 1)", x.begin(0, 1), -2);
        Check.due("begin(0, 7)", x.begin(0, 7), -2);
        Check.due("begin(0, 0)", x.begin(0, 0), -2);
    }

    private static void oneAtATime() {
        Check.says("one goes on at a time");
        SegmentMerges x = States.ofSingles(4);
        Check.due("the first", x.begin(0, 2), 2);
        Check.due("others", x.begin(2, 2), -3);
        Check.due("the same", x.begin(0, 2), -3);
        Check.due("the first goes on", x.merging(3), 0);
        x.step(1);
        Check.due("others, still", x.begin(2, 2), -3);
        x.step(1);
        Check.due("when it ended", x.begin(1, 2), 2);
        x.stop();
        Check.due("when it was given up", x.begin(0, 2), 3);
    }

    private static void leastKeyFirst() {
        Check.says("It takes their ROWS one by one, the least KEY first");
        SegmentMerges x = new SegmentMerges();
        States.flushed(x, 99, 1, 2, 2);
        States.flushed(x, 0, 3, 98, 4);
        States.flushed(x, 1, 5);
        int[] order = {0, 1, 2, 98, 99};
        x.begin(0, 3);
        for (int t = 0; t < 4; t++) {
            x.step(1);
            x.drop(order[t]);
            Check.due("a taken row that dies stays written: " + order[t], x.merging(1), t + 1);
        }
        x.step(1);
        for (int i = 0; i < 5; i++) {
            Check.due("key of row " + i, x.row(0, i, 0), order[i]);
        }
    }

    /** The dead row of the eldest goes first: between it and the living one the key can lose its value. */
    private static void ofLikeOnesTheEldest() {
        Check.says("of like ones that of the eldest");
        SegmentMerges x = new SegmentMerges();
        States.flushed(x, 7, 1);
        States.flushed(x, 7, 2);
        States.flushed(x, 7, 3);
        x.begin(0, 3);
        x.step(1);
        Check.due("the eldest's is dead", x.merging(1), 0);
        x.step(1);
        Check.due("the second's is dead", x.merging(1), 0);
        x.drop(7);
        x.step(1);
        Check.due("the youngest's died before it was taken", x.count(1), 0);
        Check.due("it was not written", x.moved(2, 0), -3);
    }

    private static void deadOnesToo() {
        Check.says("dead ones, too");
        SegmentMerges x = States.ofSingles(3);
        x.drop(0);
        x.drop(2);
        Check.due("begin", x.begin(0, 3), 3);
        Check.due("a dead one", x.step(1), 1);
        Check.due("taken", x.merging(0), 1);
        Check.due("written", x.merging(1), 0);
        Check.due("left", x.merging(2), 2);
        Check.due("the rest", x.step(1000), 2);
    }

    private static void whatLivesWhenTaken() {
        Check.says("what lives when it is taken is written into the new SEGMENT");
        SegmentMerges x = States.ofSingles(4);
        x.begin(0, 4);
        x.drop(1);
        x.step(2);
        x.put(2, 9);
        x.step(2);
        Check.due("rows", x.segment(0, 2), 2);
        Check.due("the first key", x.row(0, 0, 0), 0);
        Check.due("the last key", x.row(0, 1, 0), 3);
        Check.due("its value", x.row(0, 1, 1), 30);
        Check.due("died before it was taken", x.moved(1, 0), -3);
        Check.due("got a value before it was taken", x.moved(2, 0), -3);
    }

    private static void endsAtOnce() {
        Check.says("Behind the last one it ENDS at once");
        SegmentMerges x = States.ofSingles(2);
        x.begin(0, 2);
        x.step(1);
        Check.due("ahead of the last one: merging", x.merging(2), 1);
        Check.due("ahead of the last one: segments", x.count(1), 2);
        x.step(1);
        Check.due("merging", x.merging(0), -3);
        Check.due("segments", x.count(1), 1);
        Check.due("step(0)", x.step(0), -3);
        Check.due("stop", x.stop(), -3);
        x = States.ofSingles(2);
        x.drop(1);
        x.begin(0, 2);
        x.step(2);
        Check.due("though the last one is dead", x.merging(0), -3);
    }

    private static void standsWhereTheOthersStood() {
        Check.says("the new SEGMENT stands where the others stood");
        SegmentMerges x = States.ofSingles(20);
        x.begin(7, 6);
        x.step(1000);
        Check.due("segments", x.count(1), 15);
        for (int place = 0; place < 15; place++) {
            int number = place < 7 ? place : place == 7 ? 20 : place + 5;
            Check.due("number at " + place, x.segment(place, 0), number);
        }
        Check.due("none behind", x.segment(15, 0), -1);
    }

    private static void standsFirstOrLast() {
        Check.says("the new SEGMENT stands where the others stood");
        SegmentMerges x = States.ofSingles(20);
        States.merged(x, 0, 2);
        Check.due("the first", x.segment(0, 0), 20);
        Check.due("behind it", x.segment(1, 0), 2);
        States.merged(x, 17, 2);
        Check.due("the last", x.segment(17, 0), 21);
        Check.due("ahead of it", x.segment(16, 0), 17);
        Check.due("none behind", x.segment(18, 0), -1);
        x = States.ofSingles(2);
        States.merged(x, 0, 2);
        Check.due("the only one", x.segment(0, 0), 2);
        Check.due("segments", x.count(1), 1);
    }

    private static void tierIsOneMoreThanTheGreatest() {
        Check.says("its TIER is 1 more than their greatest");
        SegmentMerges x = States.ofSingles(6);
        States.merged(x, 4, 2);
        Check.due("of 0 and 0", x.segment(4, 1), 1);
        States.merged(x, 3, 2);
        Check.due("of 0 and 1", x.segment(3, 1), 2);
        States.flushed(x, 50, 5);
        States.merged(x, 3, 2);
        Check.due("of 2 and 0", x.segment(3, 1), 3);
        States.merged(x, 0, 2);
        States.merged(x, 0, 3);
        Check.due("of 1, 0 and 3", x.segment(0, 1), 4);
    }

    private static void numberIsTheNext() {
        Check.says("its NUMBER the next");
        SegmentMerges x = States.ofSingles(3);
        x.begin(0, 2);
        x.step(1);
        Check.due("a flush while it goes on", States.flushed(x, 50, 5), 3);
        x.step(1);
        Check.due("the next when it ENDS", x.segment(0, 0), 4);
        Check.due("the next flush", States.flushed(x, 51, 5), 5);
    }

    /** Segments 1 and 2 of three, of which key 1 with value 10 has been taken. */
    private static SegmentMerges withKeyOneTaken() {
        SegmentMerges x = States.ofSingles(3);
        x.begin(1, 2);
        x.step(1);
        return x;
    }

    private static void keyOneIsDead(SegmentMerges x) {
        Check.due("rows", x.segment(1, 2), 2);
        Check.due("key", x.row(1, 0, 0), 1);
        Check.due("its old value", x.row(1, 0, 1), 10);
        Check.due("dead", x.row(1, 0, 2), 0);
        Check.due("the other lives", x.row(1, 1, 2), 1);
        Check.due("living", x.segment(1, 3), 1);
        Check.due("it was written all the same", x.moved(1, 0), 0);
    }

    private static void deadByAnotherValue() {
        Check.says("a written ROW whose KEY got a VALUE by put()");
        SegmentMerges x = withKeyOneTaken();
        x.put(1, 5);
        x.flush();
        x.step(1);
        keyOneIsDead(x);
        Check.due("the flushed row lives", x.row(2, 0, 2), 1);
        Check.due("get(1)", x.get(1), 5);
    }

    private static void deadByTheSameValue() {
        Check.says("the same one, too");
        SegmentMerges x = withKeyOneTaken();
        x.put(1, 10);
        x.step(1);
        keyOneIsDead(x);
        Check.due("get(1)", x.get(1), 10);
        Check.due("keys that have a value", x.count(5), 3);
    }

    private static void deadByNone() {
        Check.says("or none, since it was taken is dead there");
        SegmentMerges x = withKeyOneTaken();
        x.drop(1);
        x.step(1);
        keyOneIsDead(x);
        Check.due("get(1)", x.get(1), -3);
        Check.due("keys that have a value", x.count(5), 2);
    }

    private static void refusedPutKillsNothing() {
        Check.says("REFUSALS change nothing");
        SegmentMerges x = States.ofSingles(2);
        States.fillMemory(x, 50);
        x.begin(0, 2);
        x.step(1);
        Check.due("put without room", x.put(0, 5), -4);
        Check.due("put of no value", x.put(0, 1000), -2);
        x.step(1);
        Check.due("lives", x.row(0, 0, 2), 1);
        Check.due("get(0)", x.get(0), 0);
    }

    private static void nothingWritten() {
        Check.says("If nothing was written there is no new SEGMENT (and no NUMBER is used)");
        SegmentMerges x = States.ofSingles(4);
        x.drop(1);
        x.drop(2);
        States.merged(x, 1, 2);
        Check.due("segments", x.count(1), 2);
        Check.due("ahead of it", x.segment(0, 0), 0);
        Check.due("behind it", x.segment(1, 0), 3);
        Check.due("the next number", States.flushed(x, 50, 5), 4);
        x = States.ofSingles(2);
        x.drop(0);
        x.drop(1);
        States.merged(x, 0, 2);
        Check.due("of all segments: none is left", x.count(1), 0);
        Check.due("the next number", States.flushed(x, 50, 5), 2);
        Check.due("at the first place", x.segment(0, 0), 2);
    }

    private static void allWrittenDiedSince() {
        Check.says("If nothing was written there is no new SEGMENT");
        SegmentMerges x = States.ofSingles(2);
        x.begin(0, 2);
        x.step(1);
        x.drop(0);
        x.drop(1);
        x.step(1);
        Check.due("one was written: there is a segment", x.count(1), 1);
        Check.due("its number", x.segment(0, 0), 2);
        Check.due("its tier", x.segment(0, 1), 1);
        Check.due("its rows", x.segment(0, 2), 1);
        Check.due("living ones", x.segment(0, 3), 0);
    }
}

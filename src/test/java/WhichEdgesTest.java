/** Each sentence of the promises 10 to 13 that names a boundary case, in a test of its own. */
public final class WhichEdgesTest {
    private static final int MIN = Integer.MIN_VALUE;
    private static final int MAX = Integer.MAX_VALUE;

    public static void main(String[] args) {
        fullBecomes();
        fullWas();
        fullOutside();
        dueEldest();
        dueNone();
        cheapestTwoToSix();
        cheapestFewestLiving();
        cheapestOfLikeOnes();
        cheapestOutside();
        cheapestNotSoMany();
        worstGreatestShare();
        worstExactly();
        worstOfLikeOnes();
        worstNoSegment();
        whileMerging();
        Check.finish();
    }

    private static void fullBecomes() {
        Check.says("Promise 10: F becomes f");
        SegmentMerges x = States.ofSingles(5);
        int[] all = {2, 5};
        for (int f : all) {
            x.full(f);
            Check.due("due of " + f, x.due(), 0);
        }
        x.drop(0);
        x.drop(1);
        States.merged(x, 0, 2);
        Check.due("three are no five", x.due(), -3);
        x.full(3);
        Check.due("but three", x.due(), 0);
    }

    private static void fullWas() {
        Check.says("Promise 10: what it was");
        SegmentMerges x = new SegmentMerges();
        Check.due("at first", x.full(5), 3);
        Check.due("then", x.full(2), 5);
        Check.due("then, the same", x.full(2), 2);
        Check.due("then", x.full(4), 2);
    }

    private static void fullOutside() {
        Check.says("Promise 10: -2");
        SegmentMerges x = new SegmentMerges();
        int[] none = {MIN, -1, 0, 1, 6, MAX};
        for (int f : none) {
            Check.due("full(" + f + ")", x.full(f), -2);
        }
        Check.due("it is as it was", x.full(3), 3);
    }

    private static void dueEldest() {
        Check.says("Promise 11: The place of the eldest of FULL TIERS");
        SegmentMerges x = States.ofSingles(19);
        Check.due("of many", x.due(), 0);
        for (int place = 0; place < 8; place++) {
            States.merged(x, place, 2);
        }
        x.full(2);
        Check.due("eight of tier 1, three of tier 0", x.due(), 8);
        States.merged(x, 8, 3);
        Check.due("nine of tier 1", x.due(), 0);
        States.flushed(x, 50, 5);
        States.flushed(x, 51, 5);
        Check.due("the last two", x.due(), 9);
    }

    private static void dueNone() {
        Check.says("Promise 11: -3: none is");
        SegmentMerges x = new SegmentMerges();
        Check.due("no segment", x.due(), -3);
        x.full(2);
        States.flushed(x, 1, 1);
        Check.due("one", x.due(), -3);
        States.flushed(x, 2, 2);
        States.merged(x, 0, 2);
        States.flushed(x, 3, 3);
        Check.due("two, of two tiers", x.due(), -3);
        States.flushed(x, 4, 4);
        States.flushed(x, 5, 5);
        States.merged(x, 2, 2);
        Check.due("tiers 1, 0, 1: no neighbours", x.due(), -3);
    }

    private static void cheapestTwoToSix() {
        Check.says("Promise 12: The place of the eldest of n neighbours (2 to 6)");
        SegmentMerges x = States.ofSingles(20);
        for (int n = 2; n <= 6; n++) {
            Check.due("cheapest(" + n + ") of like ones", x.cheapest(n), 0);
        }
        x.drop(19);
        for (int n = 2; n <= 6; n++) {
            Check.due("cheapest(" + n + "): the last ones", x.cheapest(n), 20 - n);
        }
        x.drop(10);
        x.drop(11);
        Check.due("cheapest(2): two dead", x.cheapest(2), 10);
        Check.due("cheapest(3): with a neighbour", x.cheapest(3), 9);
    }

    private static void cheapestFewestLiving() {
        Check.says("Promise 12: that have the fewest living ROWS together");
        SegmentMerges x = new SegmentMerges();
        States.fillMemory(x, 0);
        x.flush();
        States.fillMemory(x, 6);
        x.flush();
        States.flushed(x, 50, 0);
        States.flushed(x, 51, 0, 52, 0);
        Check.due("6, 6, 1, 2", x.cheapest(2), 2);
        for (int key = 0; key < 11; key++) {
            x.drop(key);
        }
        Check.due("0, 1, 1, 2 living: dead ones do not count", x.cheapest(2), 0);
        Check.due("of three", x.cheapest(3), 0);
        x.put(50, 1);
        x.drop(11);
        x.drop(51);
        x.drop(52);
        Check.due("0, 0, 0, 0 living", x.cheapest(2), 0);
    }

    private static void cheapestOfLikeOnes() {
        Check.says("Promise 12: of like ones the eldest");
        SegmentMerges x = new SegmentMerges();
        States.flushed(x, 0, 0, 1, 0);
        States.flushed(x, 2, 0);
        States.flushed(x, 3, 0, 4, 0);
        States.flushed(x, 5, 0);
        Check.due("2, 1, 2, 1", x.cheapest(2), 0);
        x.drop(3);
        Check.due("2, 1, 1, 1", x.cheapest(2), 1);
        Check.due("of three", x.cheapest(3), 1);
    }

    private static void cheapestOutside() {
        Check.says("Promise 12: -2");
        SegmentMerges x = States.ofSingles(20);
        int[] none = {MIN, -2, -1, 0, 1, 7, MAX};
        for (int n : none) {
            Check.due("cheapest(" + n + ")", x.cheapest(n), -2);
            Check.due("of no segment: -2 first", new SegmentMerges().cheapest(n), -2);
        }
    }

    private static void cheapestNotSoMany() {
        Check.says("Promise 12: -3 there are not so many");
        for (int n = 2; n <= 6; n++) {
            Check.due("none: cheapest(" + n + ")", new SegmentMerges().cheapest(n), -3);
            Check.due("one too few: cheapest(" + n + ")", States.ofSingles(n - 1).cheapest(n), -3);
            Check.due("just so many: cheapest(" + n + ")", States.ofSingles(n).cheapest(n), 0);
        }
    }

    private static void worstGreatestShare() {
        Check.says("Promise 13: The place of the SEGMENT of whose ROWS the greatest share is dead");
        SegmentMerges x = States.ofSingles(20);
        x.drop(19);
        Check.due("the last", x.worst(), 19);
        x.drop(0);
        Check.due("the first", x.worst(), 0);
        x = new SegmentMerges();
        States.fillMemory(x, 0);
        x.flush();
        States.flushed(x, 50, 0, 51, 0);
        for (int key = 0; key < 3; key++) {
            x.drop(key);
        }
        x.drop(50);
        Check.due("3 of 6 and 1 of 2", x.worst(), 0);
        x.drop(51);
        Check.due("3 of 6 and 2 of 2: not the greater number", x.worst(), 1);
    }

    /** Long segments, whose shares differ by less than a hundredth. */
    private static void worstExactly() {
        Check.says("Promise 13: exactly");
        SegmentMerges x = new SegmentMerges();
        for (int first = 0; first < 36; first += 6) {
            States.fillMemory(x, first);
            x.flush();
        }
        for (int first = 40; first < 75; first += 5) {
            States.flushed(x, first, 0, first + 1, 0, first + 2, 0, first + 3, 0, first + 4, 0);
        }
        States.merged(x, 0, 6);
        States.merged(x, 1, 6);
        States.merged(x, 1, 2);
        Check.due("36 rows", x.segment(0, 2), 36);
        Check.due("35 rows", x.segment(1, 2), 35);
        for (int d = 0; d < 35; d++) {
            x.drop(d);
            Check.due((d + 1) + " of 36, " + d + " of 35", x.worst(), 0);
            x.drop(40 + d);
            Check.due((d + 1) + " of 36, " + (d + 1) + " of 35", x.worst(), 1);
        }
    }

    private static void worstOfLikeOnes() {
        Check.says("Promise 13: of like ones the eldest");
        SegmentMerges x = new SegmentMerges();
        States.flushed(x, 0, 0, 1, 0);
        States.flushed(x, 2, 0, 3, 0, 4, 0, 5, 0);
        States.flushed(x, 6, 0);
        Check.due("none is dead", x.worst(), 0);
        x.drop(2);
        x.drop(3);
        x.drop(0);
        Check.due("1 of 2, 2 of 4", x.worst(), 0);
        for (int key = 0; key < 7; key++) {
            x.drop(key);
        }
        Check.due("all are dead", x.worst(), 0);
    }

    private static void worstNoSegment() {
        Check.says("Promise 13: -3 no SEGMENT");
        SegmentMerges x = new SegmentMerges();
        Check.due("a new object", x.worst(), -3);
        x.put(1, 1);
        Check.due("rows in the memory alone", x.worst(), -3);
        x.flush();
        Check.due("one segment", x.worst(), 0);
        States.flushed(x, 2, 2);
        x.drop(1);
        x.drop(2);
        States.merged(x, 0, 2);
        Check.due("none any more", x.worst(), -3);
    }

    /** The segments of a merge stand in the row until it ends, and count like all others. */
    private static void whileMerging() {
        Check.says("Promises 11 to 13, while a MERGE goes on");
        SegmentMerges x = States.ofSingles(3);
        x.drop(2);
        x.begin(0, 3);
        x.step(2);
        Check.due("due", x.due(), 0);
        Check.due("cheapest(2)", x.cheapest(2), 1);
        Check.due("cheapest(3)", x.cheapest(3), 0);
        Check.due("cheapest(4)", x.cheapest(4), -3);
        Check.due("worst", x.worst(), 2);
        x.step(1);
        Check.due("ended: due", x.due(), -3);
        Check.due("ended: cheapest(2)", x.cheapest(2), -3);
        Check.due("ended: worst", x.worst(), 0);
    }
}

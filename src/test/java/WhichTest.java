/** Promises 10 to 13: full, due, cheapest, worst. */
public final class WhichTest {
    public static void main(String[] args) {
        full();
        dueByNeighbours();
        dueByLeastTier();
        dueWhileMerging();
        cheapest();
        cheapestCountsLivingOnes();
        worst();
        worstIsExact();
        Check.finish();
    }

    private static void full() {
        SegmentMerges x = new SegmentMerges();
        Check.due("full(1)", x.full(1), -2);
        Check.due("full(6)", x.full(6), -2);
        Check.due("full(MIN)", x.full(Integer.MIN_VALUE), -2);
        Check.due("full(2), 3 at first", x.full(2), 3);
        Check.due("full(5)", x.full(5), 2);
        Check.due("full(0) changes nothing", x.full(0), -2);
        Check.due("full(3)", x.full(3), 5);
        Check.due("full(4)", x.full(4), 3);
    }

    private static void dueByNeighbours() {
        SegmentMerges x = new SegmentMerges();
        Check.due("due of none", x.due(), -3);
        States.flushed(x, 1, 1);
        States.flushed(x, 2, 2);
        Check.due("due of two, F is 3", x.due(), -3);
        x.full(2);
        Check.due("due of two, F is 2", x.due(), 0);
        x.full(5);
        States.flushed(x, 3, 3);
        States.flushed(x, 4, 4);
        Check.due("due of four, F is 5", x.due(), -3);
        States.flushed(x, 5, 5);
        Check.due("due of five, F is 5", x.due(), 0);
        States.flushed(x, 6, 6);
        Check.due("due of six: the eldest place", x.due(), 0);
    }

    /** Tiers by then: 1, 0, 0, 1, 1, and what comes behind. */
    private static void dueByLeastTier() {
        SegmentMerges x = new SegmentMerges();
        for (int s = 0; s < 8; s++) {
            States.flushed(x, s, s);
        }
        States.merged(x, 0, 2);
        States.merged(x, 3, 2);
        States.merged(x, 4, 2);
        int[] tiers = {1, 0, 0, 1, 1};
        for (int s = 0; s < 5; s++) {
            Check.due("tier at " + s, x.segment(s, 1), tiers[s]);
        }
        Check.due("F is 3: no three neighbours", x.due(), -3);
        x.full(2);
        Check.due("F is 2: the least tier", x.due(), 1);
        States.merged(x, 1, 2);
        Check.due("all of tier 1: the eldest", x.due(), 0);
        States.flushed(x, 20, 1);
        Check.due("one of tier 0 alone is not full", x.due(), 0);
        States.flushed(x, 21, 1);
        Check.due("the least tier counts, though it is younger", x.due(), 4);
        x.full(3);
        Check.due("F is 3: tier 1", x.due(), 0);
        States.merged(x, 0, 2);
        Check.due("tiers 2, 1, 1, 0, 0 and F is 3", x.due(), -3);
    }

    private static void dueWhileMerging() {
        SegmentMerges x = new SegmentMerges();
        for (int s = 0; s < 3; s++) {
            States.flushed(x, s, s);
        }
        x.begin(0, 3);
        Check.due("the segments of a merge still stand in the row", x.due(), 0);
        Check.due("for cheapest, too", x.cheapest(3), 0);
        Check.due("and for worst", x.worst(), 0);
    }

    private static void cheapest() {
        SegmentMerges x = new SegmentMerges();
        Check.due("cheapest(1)", x.cheapest(1), -2);
        Check.due("cheapest(7)", x.cheapest(7), -2);
        Check.due("cheapest(MAX)", x.cheapest(Integer.MAX_VALUE), -2);
        Check.due("cheapest(2) of none", x.cheapest(2), -3);
        States.flushed(x, 1, 1, 2, 2, 3, 3);
        Check.due("cheapest(2) of one", x.cheapest(2), -3);
        States.flushed(x, 4, 4, 5, 5);
        Check.due("cheapest(2) of two", x.cheapest(2), 0);
        States.flushed(x, 6, 6);
        States.flushed(x, 7, 7, 8, 8);
        Check.due("cheapest(2) of like ones the eldest", x.cheapest(2), 1);
        Check.due("cheapest(3)", x.cheapest(3), 1);
        Check.due("cheapest(4)", x.cheapest(4), 0);
        Check.due("cheapest(5)", x.cheapest(5), -3);
        States.flushed(x, 9, 9);
        States.flushed(x, 10, 10);
        Check.due("cheapest(2) at the end", x.cheapest(2), 4);
        Check.due("cheapest(6)", x.cheapest(6), 0);
    }

    private static void cheapestCountsLivingOnes() {
        SegmentMerges x = new SegmentMerges();
        States.flushed(x, 1, 1);
        States.flushed(x, 2, 2);
        States.flushed(x, 3, 3, 4, 4, 5, 5);
        Check.due("before", x.cheapest(2), 0);
        x.drop(3);
        x.drop(4);
        Check.due("like ones", x.cheapest(2), 0);
        x.drop(5);
        Check.due("dead rows cost nothing", x.cheapest(2), 1);
    }

    private static void worst() {
        SegmentMerges x = new SegmentMerges();
        Check.due("worst of none", x.worst(), -3);
        States.flushed(x, 1, 1, 2, 2, 3, 3, 4, 4);
        States.flushed(x, 11, 1, 12, 2);
        States.flushed(x, 21, 1, 22, 2, 23, 3);
        Check.due("none is dead: the eldest", x.worst(), 0);
        x.drop(21);
        Check.due("1/3", x.worst(), 2);
        x.drop(11);
        Check.due("1/2", x.worst(), 1);
        x.drop(1);
        x.drop(2);
        Check.due("2/4 and 1/2: of like ones the eldest", x.worst(), 0);
        x.drop(22);
        Check.due("2/3", x.worst(), 2);
        x.drop(12);
        Check.due("all", x.worst(), 1);
    }

    /** Shares that lie so close that whole quotients would be alike. */
    private static void worstIsExact() {
        SegmentMerges x = new SegmentMerges();
        States.flushed(x, 0, 0, 1, 1, 2, 2, 3, 3, 4, 4, 5, 5);
        States.flushed(x, 6, 6, 7, 7, 8, 8, 9, 9, 10, 10, 11, 11);
        States.merged(x, 0, 2);
        States.flushed(x, 20, 0, 21, 0, 22, 0, 23, 0, 24, 0, 25, 0);
        States.flushed(x, 26, 0, 27, 0, 28, 0, 29, 0, 30, 0);
        States.merged(x, 1, 2);
        for (int d = 0; d < 6; d++) {
            x.drop(d);
            x.drop(20 + d);
        }
        Check.due("6/12 and 6/11", x.worst(), 1);
        x.drop(6);
        Check.due("7/12 and 6/11", x.worst(), 0);
        x.drop(26);
        Check.due("7/12 and 7/11", x.worst(), 1);
        x.drop(7);
        Check.due("8/12 and 7/11", x.worst(), 0);
    }
}

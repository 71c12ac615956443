/** "REFUSALS change nothing; of several the first one here": each refusal, in each state that it can come in. */
public final class RefusalsTest {
    private static final int MIN = Integer.MIN_VALUE;
    private static final int MAX = Integer.MAX_VALUE;

    /** How an object looks that the refusals come upon. */
    private enum State {
        NEW, MEMORY_FULL, ROW_FULL, MERGING, ENDED, GIVEN_UP, VIEWS_FULL, ALL_FULL
    }

    public static void main(String[] args) {
        for (State state : State.values()) {
            String before = Sight.of(x -> bring(x, state));
            Check.says("REFUSALS change nothing, state " + state);
            for (int[] r : alwaysRefused()) {
                refused(state, before, r);
            }
            for (int[] r : refusedIn(state)) {
                refused(state, before, r);
            }
        }
        orderOfRefusals();
        Check.finish();
    }

    private static void refused(State state, String before, int[] r) {
        String told = Face.told(r[0], r[1], r[2], r[3]);
        SegmentMerges one = new SegmentMerges();
        bring(one, state);
        Check.due(told, Face.answer(one, r[0], r[1], r[2], r[3]), r[4]);
        String after = Sight.of(x -> {
            bring(x, state);
            Face.answer(x, r[0], r[1], r[2], r[3]);
        });
        Check.due("what is seen behind " + told, after, before);
    }

    private static void bring(SegmentMerges x, State state) {
        switch (state) {
            case NEW:
                break;
            case MEMORY_FULL:
                States.flushed(x, 50, 5, 51, 5);
                States.fillMemory(x, 10);
                break;
            case ROW_FULL:
                singles(x, 20);
                x.put(60, 6);
                break;
            case MERGING:
                merging(x);
                break;
            case ENDED:
                merging(x);
                x.step(1000);
                break;
            case GIVEN_UP:
                merging(x);
                x.stop();
                break;
            case VIEWS_FULL:
                singles(x, 2);
                views(x);
                x.drop(1);
                break;
            default:
                singles(x, 20);
                x.drop(3);
                x.full(5);
                x.begin(2, 6);
                x.step(4);
                x.drop(4);
                States.fillMemory(x, 60);
                views(x);
                break;
        }
    }

    private static void singles(SegmentMerges x, int n) {
        for (int s = 0; s < n; s++) {
            States.flushed(x, s, s);
        }
    }

    /** One that ended, and one that goes on with a row taken, a row dead since and a row dead before. */
    private static void merging(SegmentMerges x) {
        singles(x, 6);
        States.merged(x, 0, 2);
        x.drop(3);
        x.begin(0, 3);
        x.step(1);
        x.drop(0);
        x.put(70, 7);
        x.view();
    }

    private static void views(SegmentMerges x) {
        for (int v = 0; v < 4; v++) {
            x.view();
        }
    }

    /** Call, three arguments, answer: arguments that are refused whatever the state is. */
    private static int[][] alwaysRefused() {
        return new int[][] {
            {Face.PUT, -1, 0, 0, -1}, {Face.PUT, 100, 0, 0, -1}, {Face.PUT, MIN, 1000, 0, -1},
            {Face.PUT, MAX, -1, 0, -1}, {Face.PUT, 0, -1, 0, -2}, {Face.PUT, 99, 1000, 0, -2},
            {Face.PUT, 2, MIN, 0, -2}, {Face.PUT, 60, MAX, 0, -2},
            {Face.DROP, -1, 0, 0, -1}, {Face.DROP, 100, 0, 0, -1}, {Face.DROP, MIN, 0, 0, -1},
            {Face.DROP, MAX, 0, 0, -1}, {Face.GET, -1, 0, 0, -1}, {Face.GET, 100, 0, 0, -1},
            {Face.GET, 98, 0, 0, -3}, {Face.NEXT, -1, 0, 0, -1}, {Face.NEXT, 100, 0, 0, -1},
            {Face.NEXT, 98, 0, 0, -3}, {Face.COUNT, -1, 0, 0, -2}, {Face.COUNT, 6, 0, 0, -2},
            {Face.SEGMENT, -1, 0, 0, -1}, {Face.SEGMENT, 20, 5, 0, -1}, {Face.SEGMENT, MAX, MIN, 0, -1},
            {Face.ROW, -1, 0, 0, -1}, {Face.ROW, 20, 0, 3, -1}, {Face.ROW, 0, -1, 0, -1},
            {Face.ROW, 0, 6, -1, -1}, {Face.ROW, MAX, MAX, MAX, -1},
            {Face.FULL, 1, 0, 0, -2}, {Face.FULL, 6, 0, 0, -2}, {Face.FULL, MIN, 0, 0, -2},
            {Face.FULL, MAX, 0, 0, -2}, {Face.CHEAPEST, 1, 0, 0, -2}, {Face.CHEAPEST, 7, 0, 0, -2},
            {Face.CHEAPEST, MIN, 0, 0, -2}, {Face.CHEAPEST, MAX, 0, 0, -2},
            {Face.BEGIN, -1, 2, 0, -1}, {Face.BEGIN, 20, 2, 0, -1}, {Face.BEGIN, MAX, MAX, 0, -1},
            {Face.BEGIN, MIN, 2, 0, -1}, {Face.STEP, -1, 0, 0, -2}, {Face.STEP, 1001, 0, 0, -2},
            {Face.STEP, MIN, 0, 0, -2}, {Face.STEP, MAX, 0, 0, -2}, {Face.MERGING, -1, 0, 0, -2},
            {Face.MERGING, 4, 0, 0, -2}, {Face.MOVED, -1, 0, 0, -1}, {Face.MOVED, 24, 0, 0, -1},
            {Face.MOVED, 0, -1, 0, -1}, {Face.MOVED, 0, 6, 0, -1}, {Face.MOVED, MAX, MIN, 0, -1},
            {Face.SEEN, -1, 0, 0, -1}, {Face.SEEN, 4, 0, 0, -1}, {Face.SEEN, 0, -1, 0, -1},
            {Face.SEEN, 0, 100, 0, -1}, {Face.SEEN, MIN, MAX, 0, -1},
            {Face.SHUT, -1, 0, 0, -1}, {Face.SHUT, 4, 0, 0, -1}, {Face.SHUT, MIN, 0, 0, -1},
            {Face.SHUT, MAX, 0, 0, -1}
        };
    }

    private static int[][] refusedIn(State state) {
        int thrown = Model.THROWN;
        switch (state) {
            case NEW:
                return new int[][] {
                    {Face.FLUSH, 0, 0, 0, -3}, {Face.DUE, 0, 0, 0, -3}, {Face.WORST, 0, 0, 0, -3},
                    {Face.CHEAPEST, 2, 0, 0, -3}, {Face.BEGIN, 0, 2, 0, -1}, {Face.BEGIN, 0, 7, 0, -1},
                    {Face.STEP, 0, 0, 0, -3}, {Face.STEP, 1000, 0, 0, -3}, {Face.STOP, 0, 0, 0, -3},
                    {Face.MERGING, 0, 0, 0, -3}, {Face.SEEN, 0, 0, 0, -1}, {Face.SHUT, 0, 0, 0, -1},
                    {Face.SEGMENT, 0, 0, 0, -1}, {Face.ROW, 0, 0, 0, -1}, {Face.SHARE, 0, 0, 0, thrown}
                };
            case MEMORY_FULL:
                return new int[][] {
                    {Face.PUT, 0, 0, 0, -4}, {Face.PUT, 50, 6, 0, -4}, {Face.PUT, 50, 5, 0, -4},
                    {Face.PUT, 50, 1000, 0, -2}, {Face.PUT, 10, -1, 0, -2}, {Face.CHEAPEST, 2, 0, 0, -3},
                    {Face.BEGIN, 0, 2, 0, -1}, {Face.BEGIN, 0, 1, 0, -2}, {Face.BEGIN, 1, 2, 0, -1},
                    {Face.DUE, 0, 0, 0, -3}, {Face.STEP, 1, 0, 0, -3}
                };
            case ROW_FULL:
                return new int[][] {
                    {Face.FLUSH, 0, 0, 0, -4}, {Face.BEGIN, 15, 6, 0, -1}, {Face.BEGIN, 19, 2, 0, -1},
                    {Face.BEGIN, 19, 1, 0, -2}, {Face.BEGIN, 0, MAX, 0, -2}, {Face.SEGMENT, 19, 5, 0, -2},
                    {Face.ROW, 19, 0, 3, -2}, {Face.ROW, 19, 1, 0, -1}, {Face.STOP, 0, 0, 0, -3}
                };
            case MERGING:
                return new int[][] {
                    {Face.BEGIN, 0, 2, 0, -3}, {Face.BEGIN, 3, 2, 0, -3}, {Face.BEGIN, 4, 2, 0, -1},
                    {Face.BEGIN, 5, 2, 0, -1}, {Face.BEGIN, 0, 7, 0, -2}, {Face.MOVED, 2, 0, 0, -1},
                    {Face.MOVED, 6, 0, 0, -1}, {Face.MOVED, 0, 1, 0, -1}, {Face.SEEN, 0, 3, 0, -3}
                };
            case ENDED:
                return new int[][] {
                    {Face.STEP, 0, 0, 0, -3}, {Face.STOP, 0, 0, 0, -3}, {Face.MERGING, 3, 0, 0, -3},
                    {Face.MOVED, 3, 0, 0, -3}, {Face.MOVED, 0, 0, 0, -1}, {Face.MOVED, 7, 0, 0, -1},
                    {Face.BEGIN, 2, 2, 0, -1}
                };
            case GIVEN_UP:
                return new int[][] {
                    {Face.STEP, 5, 0, 0, -3}, {Face.STOP, 0, 0, 0, -3}, {Face.MERGING, 0, 0, 0, -3},
                    {Face.MOVED, 2, 0, 0, -1}
                };
            case VIEWS_FULL:
                return new int[][] {
                    {Face.VIEW, 0, 0, 0, -4}, {Face.SEEN, 3, 50, 0, -3}, {Face.SEEN, 3, 100, 0, -1},
                    {Face.FLUSH, 0, 0, 0, -3}, {Face.DUE, 0, 0, 0, -3}, {Face.CHEAPEST, 3, 0, 0, -3}
                };
            default:
                return new int[][] {
                    {Face.PUT, 0, 0, 0, -4}, {Face.PUT, 2, 2, 0, -4}, {Face.PUT, 7, 1000, 0, -2},
                    {Face.PUT, 60, 1000, 0, -2}, {Face.FLUSH, 0, 0, 0, -4}, {Face.VIEW, 0, 0, 0, -4},
                    {Face.BEGIN, 14, 6, 0, -3}, {Face.BEGIN, 2, 6, 0, -3}, {Face.BEGIN, 15, 6, 0, -1},
                    {Face.BEGIN, 19, 7, 0, -2}, {Face.GET, 3, 0, 0, -3}, {Face.MOVED, 2, 0, 0, -1}
                };
        }
    }

    private static void orderOfRefusals() {
        Check.says("of several the first one here (of begin() in its own order)");
        SegmentMerges x = States.ofSingles(20);
        States.fillMemory(x, 60);
        Check.due("put: -1 ahead of -2 and -4", x.put(100, 1000), -1);
        Check.due("put: -1 ahead of -4", x.put(-1, 0), -1);
        Check.due("put: -2 ahead of -4", x.put(50, -1), -2);
        Check.due("segment: -1 ahead of -2", x.segment(20, 5), -1);
        Check.due("row: -1 of the place ahead of -2", x.row(20, 0, 3), -1);
        Check.due("row: -1 of the row ahead of -2", x.row(0, 1, 3), -1);
        Check.due("step: -2 ahead of -3", x.step(1001), -2);
        Check.due("merging: -2 ahead of -3", x.merging(4), -2);
        Check.due("cheapest: -2 ahead of -3", new SegmentMerges().cheapest(1), -2);
        x.begin(0, 6);
        Check.due("begin: no such place ahead of -2", x.begin(20, 1), -1);
        Check.due("begin: -2 ahead of the last one", x.begin(19, 7), -2);
        Check.due("begin: the last one ahead of -3", x.begin(19, 2), -1);
        Check.due("begin: -3", x.begin(18, 2), -3);
        x.stop();
        x = States.ofSingles(20);
        Check.due("flush: -3 ahead of -4", x.flush(), -3);
    }
}

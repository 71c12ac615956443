/** The calls of the face by number, for tests that draw them or hold them in tables. */
final class Face {
    static final int PUT = 0;
    static final int DROP = 1;
    static final int GET = 2;
    static final int NEXT = 3;
    static final int FLUSH = 4;
    static final int COUNT = 5;
    static final int SEGMENT = 6;
    static final int ROW = 7;
    static final int FULL = 8;
    static final int DUE = 9;
    static final int CHEAPEST = 10;
    static final int WORST = 11;
    static final int BEGIN = 12;
    static final int STEP = 13;
    static final int STOP = 14;
    static final int MERGING = 15;
    static final int MOVED = 16;
    static final int VIEW = 17;
    static final int SEEN = 18;
    static final int SHUT = 19;
    static final int SHARE = 20;
    static final int CALLS = 21;

    private static final String[] NAMES = {
        "put", "drop", "get", "next", "flush", "count", "segment", "row", "full", "due", "cheapest", "worst",
        "begin", "step", "stop", "merging", "moved", "view", "seen", "shut", "share"
    };
    private static final int[] ARGUMENTS = {2, 1, 1, 1, 0, 1, 2, 3, 1, 0, 1, 0, 2, 1, 0, 1, 2, 0, 2, 1, 0};

    private Face() {
    }

    static String told(int call, int a, int b, int c) {
        String[] arguments = {"", "" + a, a + ", " + b, a + ", " + b + ", " + c};
        return NAMES[call] + "(" + arguments[ARGUMENTS[call]] + ")";
    }

    static int answer(SegmentMerges x, int call, int a, int b, int c) {
        switch (call) {
            case PUT: return x.put(a, b);
            case DROP: return x.drop(a);
            case GET: return x.get(a);
            case NEXT: return x.next(a);
            case FLUSH: return x.flush();
            case COUNT: return x.count(a);
            case SEGMENT: return x.segment(a, b);
            case ROW: return x.row(a, b, c);
            case FULL: return x.full(a);
            case DUE: return x.due();
            case CHEAPEST: return x.cheapest(a);
            case WORST: return x.worst();
            case BEGIN: return x.begin(a, b);
            case STEP: return x.step(a);
            case STOP: return x.stop();
            case MERGING: return x.merging(a);
            case MOVED: return x.moved(a, b);
            case VIEW: return x.view();
            case SEEN: return x.seen(a, b);
            case SHUT: return x.shut(a);
            default: return Check.shareOrThrown(x);
        }
    }
}

/** All that can be seen of an object, as a text: two objects of one text answer all calls alike. */
final class Sight {
    /** Brings a new object to a state. */
    interface Way {
        void go(SegmentMerges x);
    }

    private final Way way;
    private final StringBuilder text = new StringBuilder();

    private Sight(Way way) {
        this.way = way;
    }

    /** An object holds its promises for 512 calls, so every part of the sight is seen on an object of its own. */
    static String of(Way way) {
        Sight sight = new Sight(way);
        sight.counts();
        sight.segments();
        sight.moves();
        sight.views();
        sight.whatComesNext();
        sight.howTheMergeEnds();
        return sight.text.toString();
    }

    private SegmentMerges fresh() {
        SegmentMerges x = new SegmentMerges();
        way.go(x);
        return x;
    }

    private void ask(SegmentMerges x, int call, int a, int b, int c) {
        text.append(Face.answer(x, call, a, b, c)).append(' ');
    }

    private void counts() {
        SegmentMerges x = fresh();
        for (int what = 0; what <= 5; what++) {
            ask(x, Face.COUNT, what, 0, 0);
        }
        for (int n = 2; n <= 6; n++) {
            ask(x, Face.CHEAPEST, n, 0, 0);
        }
        for (int what = 0; what <= 3; what++) {
            ask(x, Face.MERGING, what, 0, 0);
        }
        ask(x, Face.WORST, 0, 0, 0);
        ask(x, Face.SHARE, 0, 0, 0);
        ask(x, Face.DUE, 0, 0, 0);
        for (int f = 2; f <= 5; f++) {
            ask(x, Face.FULL, f, 0, 0);
            ask(x, Face.DUE, 0, 0, 0);
        }
        for (int key = 0; key < 100; key++) {
            ask(x, Face.GET, key, 0, 0);
        }
    }

    private void segments() {
        int segments = fresh().count(1);
        for (int place = 0; place < segments; place++) {
            SegmentMerges x = fresh();
            for (int what = 0; what <= 4; what++) {
                ask(x, Face.SEGMENT, place, what, 0);
            }
            int rows = x.segment(place, 2);
            for (int i = 0; i < rows; i++) {
                for (int what = 0; what <= 2; what++) {
                    ask(x, Face.ROW, place, i, what);
                }
            }
        }
    }

    private void moves() {
        SegmentMerges x = fresh();
        for (int number = 0; number < 25; number++) {
            for (int i = 0; i < 10; i++) {
                ask(x, Face.MOVED, number, i, 0);
            }
        }
    }

    private void views() {
        for (int v = 0; v < 4; v++) {
            SegmentMerges x = fresh();
            for (int key = 0; key < 100; key++) {
                ask(x, Face.SEEN, v, key, 0);
            }
            ask(x, Face.SHUT, v, 0, 0);
            ask(x, Face.VIEW, 0, 0, 0);
        }
    }

    /** The next number, the next view and the room of the memory are seen by using them. */
    private void whatComesNext() {
        SegmentMerges x = fresh();
        for (int v = 0; v < 5; v++) {
            ask(x, Face.VIEW, 0, 0, 0);
        }
        for (int key = 80; key < 87; key++) {
            ask(x, Face.PUT, key, 1, 0);
        }
        ask(x, Face.FLUSH, 0, 0, 0);
        for (int i = 0; i < 7; i++) {
            ask(x, Face.ROW, x.count(1) - 1, i, 0);
        }
    }

    private void howTheMergeEnds() {
        SegmentMerges x = fresh();
        ask(x, Face.STEP, 1000, 0, 0);
        for (int place = 0; place < 20; place++) {
            for (int what = 0; what <= 3; what++) {
                ask(x, Face.SEGMENT, place, what, 0);
            }
        }
        ask(x, Face.COUNT, 4, 0, 0);
        ask(x, Face.BEGIN, 0, 2, 0);
    }
}

/** Objects brought to a state that several tests begin with. */
final class States {
    private States() {
    }

    /** A new segment of rows (key, value), in the order in which they are put. */
    static int flushed(SegmentMerges x, int... rows) {
        for (int i = 0; i + 1 < rows.length; i += 2) {
            x.put(rows[i], rows[i + 1]);
        }
        return x.flush();
    }

    /** Segments 0 .. n - 1 of one row each: segment s has key s with value 10 s. */
    static SegmentMerges ofSingles(int n) {
        SegmentMerges x = new SegmentMerges();
        for (int s = 0; s < n; s++) {
            flushed(x, s, 10 * s);
        }
        return x;
    }

    /** Keys from a first one on, with themselves as values, until the memory has 6 rows. */
    static void fillMemory(SegmentMerges x, int first) {
        for (int key = first; key < first + 6; key++) {
            x.put(key, key);
        }
    }

    /** All keys, with themselves as values, in 17 segments: 117 calls. */
    static SegmentMerges ofAllKeys() {
        SegmentMerges x = new SegmentMerges();
        for (int key = 0; key < 100; key++) {
            x.put(key, key);
            if (key % 6 == 5 || key == 99) {
                x.flush();
            }
        }
        return x;
    }

    static void merged(SegmentMerges x, int place, int n) {
        x.begin(place, n);
        x.step(1000);
    }
}

import java.util.Arrays;

/** Values by keys, in a memory and in segments that are merged step by step. */
public final class SegmentMerges {
    private static final int KEYS = 100;
    private static final int VALUES = 1000;
    private static final int MOST_MEMORY_ROWS = 6;
    private static final int MOST_SEGMENTS = 20;
    private static final int MOST_VIEWS = 4;
    private static final int LEAST_MERGED = 2;
    private static final int MOST_MERGED = 6;
    private static final int LEAST_FULL = 2;
    private static final int MOST_FULL = 5;
    private static final int FULL_AT_FIRST = 3;
    private static final int MOST_STEPS = 1000;

    private static final int NO_SUCH = -1;
    private static final int OUT_OF_BOUNDS = -2;
    private static final int AS_TOLD = -3;
    private static final int NO_ROOM = -4;

    /** Stands for the value of a key that has none, and for a place that is none. */
    private static final int NONE = -1;

    /** The value of every key: kept beside the rows, so that reading a key or taking a view needs no search. */
    private final int[] valueOf = new int[KEYS];
    private final Memory memory = new Memory();
    private final Segment[] segments = new Segment[MOST_SEGMENTS];
    private int segmentCount = 0;
    private int nextNumber = 0;
    private int writtenRows = 0;
    private int fullSize = FULL_AT_FIRST;

    /** The merge that goes on, or null. */
    private Merge current = null;
    /** The latest merge that ended, or null: it still knows where each row went. */
    private Merge ended = null;

    private final int[][] viewed = new int[MOST_VIEWS][KEYS];
    private final boolean[] viewOpen = new boolean[MOST_VIEWS];

    public SegmentMerges() {
        Arrays.fill(valueOf, NONE);
    }

    // ---- keys

    public int put(int key, int value) {
        if (!isKey(key)) {
            return NO_SUCH;
        }
        if (value < 0 || value >= VALUES) {
            return OUT_OF_BOUNDS;
        }
        int place = memory.find(key);
        if (place == NONE && memory.size == MOST_MEMORY_ROWS) {
            return NO_ROOM;
        }
        if (place == NONE) {
            killRowOf(key);
            memory.append(key, value);
        } else {
            memory.values[place] = value;
        }
        valueOf[key] = value;
        return memory.size;
    }

    public int drop(int key) {
        if (!isKey(key)) {
            return NO_SUCH;
        }
        if (valueOf[key] == NONE) {
            return 0;
        }
        int place = memory.find(key);
        if (place == NONE) {
            killRowOf(key);
        } else {
            memory.removeAt(place);
        }
        valueOf[key] = NONE;
        return 1;
    }

    public int get(int key) {
        if (!isKey(key)) {
            return NO_SUCH;
        }
        return valueOf[key] == NONE ? AS_TOLD : valueOf[key];
    }

    public int next(int key) {
        if (!isKey(key)) {
            return NO_SUCH;
        }
        for (int k = key; k < KEYS; k++) {
            if (valueOf[k] != NONE) {
                return k;
            }
        }
        return AS_TOLD;
    }

    public int flush() {
        if (memory.size == 0) {
            return AS_TOLD;
        }
        if (segmentCount == MOST_SEGMENTS) {
            return NO_ROOM;
        }
        Segment made = memory.asSegment(nextNumber);
        segments[segmentCount] = made;
        segmentCount++;
        nextNumber++;
        writtenRows += made.size;
        memory.size = 0;
        return made.number;
    }

    // ---- segments

    public int count(int what) {
        switch (what) {
            case 0:
                return memory.size;
            case 1:
                return segmentCount;
            case 2:
                return rowsInSegments();
            case 3:
                return livingFrom(0, segmentCount);
            case 4:
                return writtenRows;
            case 5:
                return memory.size + livingFrom(0, segmentCount);
            default:
                return OUT_OF_BOUNDS;
        }
    }

    public int segment(int place, int what) {
        if (!isPlace(place)) {
            return NO_SUCH;
        }
        Segment s = segments[place];
        switch (what) {
            case 0:
                return s.number;
            case 1:
                return s.tier;
            case 2:
                return s.size;
            case 3:
                return s.living;
            case 4:
                return current != null && current.isOf(place) ? 1 : 0;
            default:
                return OUT_OF_BOUNDS;
        }
    }

    public int row(int place, int i, int what) {
        if (!isPlace(place) || !segments[place].hasRow(i)) {
            return NO_SUCH;
        }
        Segment s = segments[place];
        switch (what) {
            case 0:
                return s.keys[i];
            case 1:
                return s.values[i];
            case 2:
                return s.lives[i] ? 1 : 0;
            default:
                return OUT_OF_BOUNDS;
        }
    }

    // ---- which

    public int full(int f) {
        if (f < LEAST_FULL || f > MOST_FULL) {
            return OUT_OF_BOUNDS;
        }
        int before = fullSize;
        fullSize = f;
        return before;
    }

    public int due() {
        int best = NONE;
        for (int place = 0; place + fullSize <= segmentCount; place++) {
            if (isOfOneTier(place, fullSize)
                    && (best == NONE || segments[place].tier < segments[best].tier)) {
                best = place;
            }
        }
        return best == NONE ? AS_TOLD : best;
    }

    public int cheapest(int n) {
        if (!canBeMerged(n)) {
            return OUT_OF_BOUNDS;
        }
        if (segmentCount < n) {
            return AS_TOLD;
        }
        int best = 0;
        int fewest = livingFrom(0, n);
        for (int place = 1; place + n <= segmentCount; place++) {
            int living = livingFrom(place, n);
            if (living < fewest) {
                best = place;
                fewest = living;
            }
        }
        return best;
    }

    public int worst() {
        if (segmentCount == 0) {
            return AS_TOLD;
        }
        int worst = 0;
        for (int place = 1; place < segmentCount; place++) {
            if (segments[place].isDeaderThan(segments[worst])) {
                worst = place;
            }
        }
        return worst;
    }

    // ---- merging

    public int begin(int place, int n) {
        if (!isPlace(place)) {
            return NO_SUCH;
        }
        if (!canBeMerged(n)) {
            return OUT_OF_BOUNDS;
        }
        if (!isPlace(place + n - 1)) {
            return NO_SUCH;
        }
        if (current != null) {
            return AS_TOLD;
        }
        current = new Merge(segments, place, n);
        return current.left;
    }

    public int step(int n) {
        if (n < 0 || n > MOST_STEPS) {
            return OUT_OF_BOUNDS;
        }
        if (current == null) {
            return AS_TOLD;
        }
        int took = 0;
        while (took < n && current.left > 0) {
            current.takeOne();
            took++;
        }
        if (current.left == 0) {
            endMerge(current);
        }
        return took;
    }

    public int stop() {
        if (current == null) {
            return AS_TOLD;
        }
        int taken = current.taken;
        writtenRows += current.written;
        current = null;
        return taken;
    }

    public int merging(int what) {
        if (what < 0 || what > 3) {
            return OUT_OF_BOUNDS;
        }
        if (current == null) {
            return AS_TOLD;
        }
        switch (what) {
            case 0:
                return current.taken;
            case 1:
                return current.written;
            case 2:
                return current.left;
            default:
                return current.place;
        }
    }

    public int moved(int number, int i) {
        Segment s = ended == null ? null : ended.sourceOf(number);
        if (s == null || !s.hasRow(i)) {
            return NO_SUCH;
        }
        return s.wentTo[i] == NONE ? AS_TOLD : s.wentTo[i];
    }

    // ---- views

    public int view() {
        for (int v = 0; v < MOST_VIEWS; v++) {
            if (!viewOpen[v]) {
                viewOpen[v] = true;
                System.arraycopy(valueOf, 0, viewed[v], 0, KEYS);
                return v;
            }
        }
        return NO_ROOM;
    }

    public int seen(int view, int key) {
        if (!isOpenView(view) || !isKey(key)) {
            return NO_SUCH;
        }
        int value = viewed[view][key];
        return value == NONE ? AS_TOLD : value;
    }

    public int shut(int view) {
        if (!isOpenView(view)) {
            return NO_SUCH;
        }
        int changed = 0;
        for (int key = 0; key < KEYS; key++) {
            if (viewed[view][key] != valueOf[key]) {
                changed++;
            }
        }
        viewOpen[view] = false;
        return changed;
    }

    public int share() throws ArithmeticException {
        int rows = rowsInSegments();
        if (rows == 0) {
            throw new ArithmeticException("there are no rows in segments");
        }
        return 1000 * livingFrom(0, segmentCount) / rows;
    }

    // ---- helpers

    private static boolean isKey(int key) {
        return key >= 0 && key < KEYS;
    }

    private static boolean canBeMerged(int n) {
        return n >= LEAST_MERGED && n <= MOST_MERGED;
    }

    private boolean isPlace(int place) {
        return place >= 0 && place < segmentCount;
    }

    private boolean isOpenView(int view) {
        return view >= 0 && view < MOST_VIEWS && viewOpen[view];
    }

    private void killRowOf(int key) {
        for (int place = 0; place < segmentCount; place++) {
            segments[place].kill(key);
        }
    }

    private int rowsInSegments() {
        int rows = 0;
        for (int place = 0; place < segmentCount; place++) {
            rows += segments[place].size;
        }
        return rows;
    }

    private int livingFrom(int place, int n) {
        int living = 0;
        for (int p = place; p < place + n; p++) {
            living += segments[p].living;
        }
        return living;
    }

    private boolean isOfOneTier(int place, int n) {
        for (int p = place + 1; p < place + n; p++) {
            if (segments[p].tier != segments[place].tier) {
                return false;
            }
        }
        return true;
    }

    private void endMerge(Merge merge) {
        int kept = 0;
        if (merge.written > 0) {
            segments[merge.place] = merge.asSegment(nextNumber);
            nextNumber++;
            kept = 1;
        }
        closeGap(merge.place + kept, merge.sources.length - kept);
        writtenRows += merge.written;
        ended = merge;
        current = null;
    }

    private void closeGap(int place, int n) {
        for (int p = place; p + n < segmentCount; p++) {
            segments[p] = segments[p + n];
        }
        segmentCount -= n;
    }

    /** The rows that are in no segment yet, in the order in which their keys came. */
    private static final class Memory {
        final int[] keys = new int[MOST_MEMORY_ROWS];
        final int[] values = new int[MOST_MEMORY_ROWS];
        int size = 0;

        int find(int key) {
            for (int i = 0; i < size; i++) {
                if (keys[i] == key) {
                    return i;
                }
            }
            return NONE;
        }

        void append(int key, int value) {
            keys[size] = key;
            values[size] = value;
            size++;
        }

        void removeAt(int place) {
            for (int i = place; i + 1 < size; i++) {
                keys[i] = keys[i + 1];
                values[i] = values[i + 1];
            }
            size--;
        }

        Segment asSegment(int number) {
            Segment made = new Segment(number, 0, size);
            for (int i = 0; i < size; i++) {
                made.write(rankOf(keys[i]), keys[i], values[i], true);
            }
            return made;
        }

        /** A key's place by rising keys: no two rows have one key, so no two have one rank. */
        private int rankOf(int key) {
            int lesser = 0;
            for (int i = 0; i < size; i++) {
                if (keys[i] < key) {
                    lesser++;
                }
            }
            return lesser;
        }
    }

    /** Rows by rising keys; once they are written only their lives change. */
    private static final class Segment {
        final int number;
        final int tier;
        final int size;
        final int[] keys;
        final int[] values;
        final boolean[] lives;
        /** Where a merge wrote each row that it took, or NONE; a later merge writes over what a given up one left. */
        final int[] wentTo;
        int living = 0;

        Segment(int number, int tier, int size) {
            this.number = number;
            this.tier = tier;
            this.size = size;
            keys = new int[size];
            values = new int[size];
            lives = new boolean[size];
            wentTo = new int[size];
        }

        void write(int i, int key, int value, boolean alive) {
            keys[i] = key;
            values[i] = value;
            lives[i] = alive;
            if (alive) {
                living++;
            }
        }

        boolean hasRow(int i) {
            return i >= 0 && i < size;
        }

        void kill(int key) {
            for (int i = 0; i < size && keys[i] <= key; i++) {
                if (keys[i] == key && lives[i]) {
                    lives[i] = false;
                    living--;
                }
            }
        }

        /** Multiplied crosswise, since a quotient would be cut. */
        boolean isDeaderThan(Segment other) {
            return (size - living) * other.size > (other.size - other.living) * size;
        }
    }

    /** Neighbouring segments whose rows are taken one by one. */
    private static final class Merge {
        final int place;
        final Segment[] sources;
        /** How many rows of each source were taken. */
        final int[] takenOf;
        int taken = 0;
        int written = 0;
        int left = 0;

        Merge(Segment[] segments, int place, int n) {
            this.place = place;
            sources = new Segment[n];
            takenOf = new int[n];
            for (int s = 0; s < n; s++) {
                sources[s] = segments[place + s];
                left += sources[s].size;
            }
        }

        /** Flushes only add behind the last segment, so the sources keep their places while the merge goes on. */
        boolean isOf(int p) {
            return p >= place && p < place + sources.length;
        }

        Segment sourceOf(int number) {
            for (int s = 0; s < sources.length; s++) {
                if (sources[s].number == number) {
                    return sources[s];
                }
            }
            return null;
        }

        void takeOne() {
            int s = sourceOfLeastKey();
            if (s == NONE) {
                return;
            }
            Segment source = sources[s];
            int i = takenOf[s];
            if (source.lives[i]) {
                source.wentTo[i] = written;
                written++;
            } else {
                source.wentTo[i] = NONE;
            }
            takenOf[s]++;
            taken++;
            left--;
        }

        private int sourceOfLeastKey() {
            int best = NONE;
            int least = KEYS;
            for (int s = 0; s < sources.length; s++) {
                if (takenOf[s] < sources[s].size && sources[s].keys[takenOf[s]] < least) {
                    best = s;
                    least = sources[s].keys[takenOf[s]];
                }
            }
            return best;
        }

        /** A row that died since it was taken is dead in its source, so its life there is its life in the new one. */
        Segment asSegment(int number) {
            Segment made = new Segment(number, greatestTier() + 1, written);
            for (int s = 0; s < sources.length; s++) {
                Segment source = sources[s];
                for (int i = 0; i < source.size; i++) {
                    if (source.wentTo[i] != NONE) {
                        made.write(source.wentTo[i], source.keys[i], source.values[i], source.lives[i]);
                    }
                }
            }
            return made;
        }

        private int greatestTier() {
            int greatest = 0;
            for (int s = 0; s < sources.length; s++) {
                greatest = Math.max(greatest, sources[s].tier);
            }
            return greatest;
        }
    }
}

/** Each sentence of the promises 1 to 6 that names a boundary case, in a test of its own. */
public final class KeysEdgesTest {
    private static final int MIN = Integer.MIN_VALUE;
    private static final int MAX = Integer.MAX_VALUE;

    public static void main(String[] args) {
        newObject();
        putGivesAValue();
        putTellsRowsOfMemory();
        putOfARowThatIsThere();
        putNoKey();
        putNoValue();
        putSixOthers();
        putRoomAgain();
        dropTakesTheValue();
        dropTakesTheRowOfMemory();
        dropHadOne();
        dropHadNone();
        dropNoKey();
        getValue();
        getNoKey();
        getNone();
        nextNotBelow();
        nextNoKey();
        nextNone();
        flushTierZero();
        flushLastOfTheRow();
        flushEmptiesMemory();
        flushNumber();
        flushNoRows();
        flushNoRoom();
        flushWhileMerging();
        Check.finish();
    }

    private static void newObject() {
        Check.says("Promise 1: Nothing.");
        SegmentMerges x = new SegmentMerges();
        for (int what = 0; what <= 5; what++) {
            Check.due("count(" + what + ")", x.count(what), 0);
        }
        Check.due("no value", x.next(0), -3);
        Check.due("no segment", x.segment(0, 0), -1);
        Check.due("no row", x.row(0, 0, 0), -1);
        Check.due("nothing to flush", x.flush(), -3);
        Check.due("no merge", x.merging(0), -3);
        Check.due("none has ended", x.moved(0, 0), -1);
        for (int v = 0; v < 4; v++) {
            Check.due("view " + v, x.shut(v), -1);
        }
        SegmentMerges other = new SegmentMerges();
        States.flushed(other, 1, 1);
        other.view();
        Check.due("another object's value", x.get(1), -3);
        Check.due("another object's segment", x.count(1), 0);
        Check.due("another object's number", States.flushed(x, 2, 2), 0);
        Check.due("another object's view", x.view(), 0);
    }

    private static void putGivesAValue() {
        Check.says("Promise 2: A KEY gets a VALUE");
        int[] keys = {0, 99};
        int[] values = {0, 999};
        for (int key : keys) {
            for (int value : values) {
                SegmentMerges x = new SegmentMerges();
                Check.due("put(" + key + ", " + value + ")", x.put(key, value), 1);
                Check.due("get(" + key + ")", x.get(key), value);
                Check.due("keys that have one", x.count(5), 1);
            }
        }
    }

    private static void putTellsRowsOfMemory() {
        Check.says("Promise 2: how many ROWS THE MEMORY has");
        SegmentMerges x = new SegmentMerges();
        for (int n = 1; n <= 6; n++) {
            Check.due("the " + n + ". key", x.put(100 - n, 0), n);
        }
        x.flush();
        Check.due("not those of segments", x.put(99, 0), 1);
    }

    private static void putOfARowThatIsThere() {
        Check.says("Promise 2: a ROW of it there has the new VALUE, at its place");
        SegmentMerges x = new SegmentMerges();
        States.fillMemory(x, 10);
        for (int key = 10; key < 16; key++) {
            Check.due("put(" + key + ") again, the memory full", x.put(key, 900 + key), 6);
            Check.due("get(" + key + ")", x.get(key), 900 + key);
        }
        Check.due("the same value", x.put(10, 910), 6);
        x.flush();
        for (int i = 0; i < 6; i++) {
            Check.due("key of row " + i, x.row(0, i, 0), 10 + i);
            Check.due("value of row " + i, x.row(0, i, 1), 910 + i);
        }
    }

    private static void putNoKey() {
        Check.says("Promise 2: -1");
        SegmentMerges x = new SegmentMerges();
        int[] none = {MIN, -1, 100, MAX};
        for (int key : none) {
            Check.due("put(" + key + ", 0)", x.put(key, 0), -1);
        }
        Check.due("rows", x.count(0), 0);
    }

    private static void putNoValue() {
        Check.says("Promise 2: -2");
        SegmentMerges x = new SegmentMerges();
        int[] none = {MIN, -1, 1000, MAX};
        for (int value : none) {
            Check.due("put(0, " + value + ")", x.put(0, value), -2);
        }
        Check.due("rows", x.count(0), 0);
        Check.due("get(0)", x.get(0), -3);
    }

    private static void putSixOthers() {
        Check.says("Promise 2: -4 there are 6 others");
        SegmentMerges x = new SegmentMerges();
        States.flushed(x, 50, 5);
        for (int key = 0; key < 5; key++) {
            x.put(key, 1);
        }
        Check.due("five others", x.put(5, 1), 6);
        Check.due("six others", x.put(6, 1), -4);
        Check.due("six others, a row in a segment", x.put(50, 1), -4);
        Check.due("that row lives", x.row(0, 0, 2), 1);
        Check.due("and has its value", x.get(50), 5);
        Check.due("it and five others", x.put(5, 2), 6);
    }

    private static void putRoomAgain() {
        Check.says("Promise 2: -4 there are 6 others");
        SegmentMerges x = new SegmentMerges();
        States.fillMemory(x, 0);
        Check.due("full", x.put(90, 1), -4);
        x.drop(3);
        Check.due("room by drop", x.put(90, 1), 6);
        Check.due("full again", x.put(3, 1), -4);
        x.flush();
        Check.due("room by flush", x.put(3, 1), 1);
    }

    private static void dropTakesTheValue() {
        Check.says("Promise 3: A KEY has no VALUE any more");
        SegmentMerges x = States.ofAllKeys();
        x.drop(0);
        x.drop(99);
        Check.due("get(0)", x.get(0), -3);
        Check.due("get(99)", x.get(99), -3);
        Check.due("get(1)", x.get(1), 1);
        Check.due("keys that have one", x.count(5), 98);
        Check.due("row of key 0", x.row(0, 0, 2), 0);
        Check.due("row of key 99", x.row(16, 3, 2), 0);
    }

    private static void dropTakesTheRowOfMemory() {
        Check.says("Promise 3: a ROW in THE MEMORY goes");
        for (int gone = 0; gone < 6; gone++) {
            SegmentMerges x = new SegmentMerges();
            States.fillMemory(x, 0);
            x.drop(gone);
            Check.due("rows without " + gone, x.count(0), 5);
            x.flush();
            for (int i = 0; i < 5; i++) {
                Check.due("key of row " + i, x.row(0, i, 0), i < gone ? i : i + 1);
                Check.due("value of row " + i, x.row(0, i, 1), i < gone ? i : i + 1);
            }
        }
        SegmentMerges x = new SegmentMerges();
        x.put(5, 5);
        x.drop(5);
        Check.due("the only one", x.count(0), 0);
    }

    private static void dropHadOne() {
        Check.says("Promise 3: 1 if it had one");
        SegmentMerges x = new SegmentMerges();
        x.put(0, 0);
        Check.due("value 0 in the memory", x.drop(0), 1);
        States.flushed(x, 0, 0, 99, 999);
        Check.due("value 0 in a segment", x.drop(0), 1);
        Check.due("value 999 in a segment", x.drop(99), 1);
    }

    private static void dropHadNone() {
        Check.says("Promise 3: else 0");
        SegmentMerges x = new SegmentMerges();
        Check.due("never", x.drop(0), 0);
        x.put(0, 0);
        x.drop(0);
        Check.due("dropped in the memory", x.drop(0), 0);
        States.flushed(x, 0, 0);
        x.drop(0);
        Check.due("dropped in a segment", x.drop(0), 0);
        Check.due("living ones", x.count(3), 0);
    }

    private static void dropNoKey() {
        Check.says("Promise 3: -1");
        SegmentMerges x = States.ofAllKeys();
        int[] none = {MIN, -1, 100, MAX};
        for (int key : none) {
            Check.due("drop(" + key + ")", x.drop(key), -1);
        }
        Check.due("keys that have a value", x.count(5), 100);
    }

    private static void getValue() {
        Check.says("Promise 4: VALUE of a KEY");
        SegmentMerges x = new SegmentMerges();
        x.put(0, 0);
        x.put(99, 999);
        Check.due("get(0) in the memory", x.get(0), 0);
        Check.due("get(99) in the memory", x.get(99), 999);
        x.flush();
        Check.due("get(0) in a segment", x.get(0), 0);
        Check.due("get(99) in a segment", x.get(99), 999);
        x.put(0, 1);
        Check.due("get(0), the newer one", x.get(0), 1);
        x.flush();
        x.begin(0, 2);
        x.step(1);
        Check.due("get(99) while merging", x.get(99), 999);
        x.step(1000);
        Check.due("get(0) merged", x.get(0), 1);
        Check.due("get(99) merged", x.get(99), 999);
    }

    private static void getNoKey() {
        Check.says("Promise 4: -1");
        SegmentMerges x = States.ofAllKeys();
        int[] none = {MIN, -1, 100, MAX};
        for (int key : none) {
            Check.due("get(" + key + ")", x.get(key), -1);
        }
    }

    private static void getNone() {
        Check.says("Promise 4: -3 it has none");
        SegmentMerges x = new SegmentMerges();
        Check.due("never: get(0)", x.get(0), -3);
        Check.due("never: get(99)", x.get(99), -3);
        x.put(5, 0);
        x.drop(5);
        Check.due("dropped in the memory", x.get(5), -3);
        States.flushed(x, 5, 0);
        x.drop(5);
        Check.due("dropped in a segment", x.get(5), -3);
    }

    private static void nextNotBelow() {
        Check.says("Promise 5: The least KEY, not below this one, that has a VALUE");
        SegmentMerges x = new SegmentMerges();
        States.flushed(x, 0, 0, 50, 0);
        x.put(99, 0);
        Check.due("next(0): itself", x.next(0), 0);
        Check.due("next(1)", x.next(1), 50);
        Check.due("next(50): itself", x.next(50), 50);
        Check.due("next(51)", x.next(51), 99);
        Check.due("next(99): itself", x.next(99), 99);
        x.drop(50);
        Check.due("next(1) passes a dead row", x.next(1), 99);
    }

    private static void nextNoKey() {
        Check.says("Promise 5: -1");
        SegmentMerges x = States.ofAllKeys();
        int[] none = {MIN, -1, 100, MAX};
        for (int key : none) {
            Check.due("next(" + key + ")", x.next(key), -1);
        }
    }

    private static void nextNone() {
        Check.says("Promise 5: -3 there is none");
        SegmentMerges x = new SegmentMerges();
        Check.due("next(0) of nothing", x.next(0), -3);
        x.put(0, 0);
        Check.due("next(1): it does not go round", x.next(1), -3);
        Check.due("next(99): it does not go round", x.next(99), -3);
        x.put(98, 0);
        Check.due("next(99)", x.next(99), -3);
        x.drop(98);
        x.drop(0);
        Check.due("next(0) of what was dropped", x.next(0), -3);
    }

    private static void flushTierZero() {
        Check.says("Promise 6: THE MEMORY becomes a SEGMENT of TIER 0");
        SegmentMerges x = new SegmentMerges();
        x.put(1, 1);
        x.flush();
        Check.due("of one row", x.segment(0, 2), 1);
        Check.due("tier", x.segment(0, 1), 0);
        States.fillMemory(x, 10);
        x.flush();
        Check.due("of six rows", x.segment(1, 2), 6);
        Check.due("all living", x.segment(1, 3), 6);
        States.merged(x, 0, 2);
        States.flushed(x, 2, 2);
        Check.due("tier behind a merged one", x.segment(1, 1), 0);
    }

    private static void flushLastOfTheRow() {
        Check.says("Promise 6: the last one of THE ROW");
        SegmentMerges x = States.ofSingles(3);
        x.begin(1, 2);
        int number = States.flushed(x, 50, 5);
        Check.due("behind a merge that goes on", x.segment(3, 0), number);
        x.step(1000);
        Check.due("behind its new one", x.segment(2, 0), number);
        number = States.flushed(x, 51, 5);
        Check.due("behind all", x.segment(3, 0), number);
    }

    private static void flushEmptiesMemory() {
        Check.says("Promise 6: and is empty");
        SegmentMerges x = new SegmentMerges();
        States.fillMemory(x, 0);
        x.flush();
        Check.due("rows", x.count(0), 0);
        Check.due("six fit again", x.put(5, 9), 1);
        Check.due("a row in the segment dies, none in the memory", x.row(0, 5, 2), 0);
        Check.due("values stay", x.get(0), 0);
    }

    private static void flushNumber() {
        Check.says("Promise 6: its NUMBER");
        SegmentMerges x = new SegmentMerges();
        Check.due("the first", States.flushed(x, 1, 1), 0);
        Check.due("the second", States.flushed(x, 2, 2), 1);
        Check.due("by segment()", x.segment(1, 0), 1);
        States.merged(x, 0, 2);
        Check.due("behind a merge", States.flushed(x, 3, 3), 3);
    }

    private static void flushNoRows() {
        Check.says("Promise 6: -3 it has no ROWS");
        SegmentMerges x = new SegmentMerges();
        Check.due("a new object", x.flush(), -3);
        x.put(1, 1);
        x.drop(1);
        Check.due("its only row dropped", x.flush(), -3);
        States.flushed(x, 1, 1);
        Check.due("flushed", x.flush(), -3);
        Check.due("segments", x.count(1), 1);
    }

    private static void flushNoRoom() {
        Check.says("Promise 6: -4");
        SegmentMerges x = States.ofSingles(19);
        x.put(50, 5);
        Check.due("the twentieth", x.flush(), 19);
        x.put(51, 5);
        Check.due("the twenty-first", x.flush(), -4);
        Check.due("the memory keeps its row", x.count(0), 1);
        Check.due("segments", x.count(1), 20);
        Check.due("written", x.count(4), 20);
    }

    private static void flushWhileMerging() {
        Check.says("Promise 6: (a MERGE that goes on counts as its SEGMENTS)");
        SegmentMerges x = States.ofSingles(19);
        x.begin(0, 6);
        x.step(5);
        Check.due("19 with a merge of 6", States.flushed(x, 50, 5), 19);
        Check.due("20 with it", States.flushed(x, 51, 5), -4);
        Check.due("count(1)", x.count(1), 20);
        x.stop();
        Check.due("given up", x.flush(), -4);
        x.begin(0, 2);
        x.step(1);
        Check.due("one row ahead of the end", x.flush(), -4);
        x.step(1);
        Check.due("ended", x.flush(), 21);
        Check.due("20 again", States.flushed(x, 52, 5), -4);
    }
}

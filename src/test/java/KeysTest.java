/** Promises 1 to 6: a new object, put, drop, get, next, flush. */
public final class KeysTest {
    public static void main(String[] args) {
        newObject();
        putOrdinary();
        putRefused();
        putKillsRowInSegment();
        refusedPutChangesNothing();
        dropOrdinary();
        dropKeepsOrderOfMemory();
        getAndNext();
        flushOrdinary();
        flushRefused();
        flushNumbersGoOn();
        Check.finish();
    }

    private static void newObject() {
        SegmentMerges x = new SegmentMerges();
        for (int what = 0; what <= 5; what++) {
            Check.due("new: count(" + what + ")", x.count(what), 0);
        }
        for (int key = 0; key < 100; key++) {
            Check.due("new: get(" + key + ")", x.get(key), -3);
        }
        Check.due("new: next(0)", x.next(0), -3);
        Check.due("new: segment(0, 0)", x.segment(0, 0), -1);
        Check.due("new: row(0, 0, 0)", x.row(0, 0, 0), -1);
        Check.due("new: merging(0)", x.merging(0), -3);
        Check.due("new: moved(0, 0)", x.moved(0, 0), -1);
        Check.due("new: seen(0, 0)", x.seen(0, 0), -1);
        Check.due("new: full(2)", x.full(2), 3);
        SegmentMerges other = new SegmentMerges();
        other.put(1, 1);
        Check.due("one object knows nothing of another", x.get(1), -3);
        Check.due("F of another object", other.full(4), 3);
    }

    private static void putOrdinary() {
        SegmentMerges x = new SegmentMerges();
        Check.due("put(0, 0)", x.put(0, 0), 1);
        Check.due("put(99, 999)", x.put(99, 999), 2);
        Check.due("get(0)", x.get(0), 0);
        Check.due("get(99)", x.get(99), 999);
        Check.due("put(0, 5) again", x.put(0, 5), 2);
        Check.due("get(0) of the new value", x.get(0), 5);
        Check.due("put(0, 5) the same", x.put(0, 5), 2);
        Check.due("count(0)", x.count(0), 2);
        Check.due("count(5)", x.count(5), 2);
        x.put(99, 1);
        x.flush();
        Check.due("the row has the new value", x.row(0, 0, 1), 5);
        Check.due("so has the last one", x.row(0, 1, 1), 1);
    }

    private static void putRefused() {
        SegmentMerges x = new SegmentMerges();
        Check.due("put(-1, 0)", x.put(-1, 0), -1);
        Check.due("put(100, 0)", x.put(100, 0), -1);
        Check.due("put(MIN, MIN)", x.put(Integer.MIN_VALUE, Integer.MIN_VALUE), -1);
        Check.due("put(100, 1000): -1 comes first", x.put(100, 1000), -1);
        Check.due("put(0, -1)", x.put(0, -1), -2);
        Check.due("put(0, 1000)", x.put(0, 1000), -2);
        Check.due("nothing came", x.count(0), 0);
        for (int key = 10; key < 16; key++) {
            Check.due("put " + key, x.put(key, key), key - 9);
        }
        Check.due("put of a seventh key", x.put(16, 16), -4);
        Check.due("put(16, 1000): -2 ahead of -4", x.put(16, 1000), -2);
        Check.due("put(100, 0): -1 ahead of -4", x.put(100, 0), -1);
        Check.due("put of a key that is there", x.put(12, 999), 6);
        Check.due("get of it", x.get(12), 999);
        Check.due("the seventh has none", x.get(16), -3);
    }

    private static void putKillsRowInSegment() {
        SegmentMerges x = new SegmentMerges();
        States.flushed(x, 7, 70, 8, 80);
        Check.due("put of the same value", x.put(7, 70), 1);
        Check.due("its row is dead all the same", x.row(0, 0, 2), 0);
        Check.due("the other lives", x.row(0, 1, 2), 1);
        Check.due("living ones", x.count(3), 1);
        Check.due("keys with a value", x.count(5), 2);
        States.flushed(x);
        x.put(7, 71);
        Check.due("the later row dies, too", x.row(1, 0, 2), 0);
        Check.due("its value stays in the dead row", x.row(1, 0, 1), 70);
        Check.due("get(7)", x.get(7), 71);
    }

    private static void refusedPutChangesNothing() {
        SegmentMerges x = new SegmentMerges();
        States.flushed(x, 50, 5);
        for (int key = 0; key < 6; key++) {
            x.put(key, key);
        }
        Check.due("put(50, 6) has no room", x.put(50, 6), -4);
        Check.due("its row still lives", x.row(0, 0, 2), 1);
        Check.due("and its value stays", x.get(50), 5);
        Check.due("put(50, 1000)", x.put(50, 1000), -2);
        Check.due("living ones", x.count(3), 1);
    }

    private static void dropOrdinary() {
        SegmentMerges x = new SegmentMerges();
        Check.due("drop(-1)", x.drop(-1), -1);
        Check.due("drop(100)", x.drop(100), -1);
        Check.due("drop of none", x.drop(0), 0);
        x.put(0, 0);
        Check.due("drop of value 0 in the memory", x.drop(0), 1);
        Check.due("drop again", x.drop(0), 0);
        Check.due("count(0)", x.count(0), 0);
        Check.due("get(0)", x.get(0), -3);
        States.flushed(x, 99, 1, 98, 2);
        Check.due("drop(99) in a segment", x.drop(99), 1);
        Check.due("its row is dead", x.row(0, 1, 2), 0);
        Check.due("drop(99) again", x.drop(99), 0);
        Check.due("the other row lives", x.row(0, 0, 2), 1);
        x.put(98, 3);
        Check.due("drop(98) in the memory", x.drop(98), 1);
        Check.due("the old row does not come back", x.get(98), -3);
        Check.due("and stays dead", x.row(0, 0, 2), 0);
    }

    private static void dropKeepsOrderOfMemory() {
        SegmentMerges x = new SegmentMerges();
        for (int key = 5; key >= 0; key--) {
            x.put(key, 10 + key);
        }
        Check.due("drop(5), the first", x.drop(5), 1);
        Check.due("drop(0), the last", x.drop(0), 1);
        Check.due("drop(3), a middle one", x.drop(3), 1);
        Check.due("three are left", x.count(0), 3);
        Check.due("there is room again", x.put(60, 6), 4);
        Check.due("get(4)", x.get(4), 14);
        Check.due("get(2)", x.get(2), 12);
        Check.due("get(1)", x.get(1), 11);
        Check.due("flush", x.flush(), 0);
        int[] keys = {1, 2, 4, 60};
        int[] values = {11, 12, 14, 6};
        for (int i = 0; i < 4; i++) {
            Check.due("key of row " + i, x.row(0, i, 0), keys[i]);
            Check.due("value of row " + i, x.row(0, i, 1), values[i]);
        }
    }

    private static void getAndNext() {
        SegmentMerges x = new SegmentMerges();
        Check.due("get(-1)", x.get(-1), -1);
        Check.due("get(100)", x.get(100), -1);
        Check.due("next(-1)", x.next(-1), -1);
        Check.due("next(100)", x.next(100), -1);
        States.flushed(x, 20, 0, 40, 4);
        x.put(30, 3);
        x.put(99, 9);
        Check.due("next(0)", x.next(0), 20);
        Check.due("next(20), not below it", x.next(20), 20);
        Check.due("next(21)", x.next(21), 30);
        Check.due("next(31)", x.next(31), 40);
        Check.due("next(99)", x.next(99), 99);
        Check.due("get(20), value 0", x.get(20), 0);
        x.drop(99);
        Check.due("next(99) of none", x.next(99), -3);
        Check.due("next(41) of none", x.next(41), -3);
        x.drop(20);
        Check.due("next(0) passes dead rows", x.next(0), 30);
    }

    private static void flushOrdinary() {
        SegmentMerges x = new SegmentMerges();
        x.put(9, 1);
        x.put(3, 2);
        x.put(6, 3);
        Check.due("flush", x.flush(), 0);
        Check.due("the memory is empty", x.count(0), 0);
        Check.due("one segment", x.count(1), 1);
        Check.due("tier 0", x.segment(0, 1), 0);
        int[] keys = {3, 6, 9};
        int[] values = {2, 3, 1};
        for (int i = 0; i < 3; i++) {
            Check.due("key of row " + i, x.row(0, i, 0), keys[i]);
            Check.due("value of row " + i, x.row(0, i, 1), values[i]);
            Check.due("row " + i + " lives", x.row(0, i, 2), 1);
        }
        Check.due("WRITTEN", x.count(4), 3);
        Check.due("the value is still had", x.get(6), 3);
        States.flushed(x, 1, 1);
        Check.due("the newest stands last", x.segment(1, 0), 1);
        Check.due("the eldest first", x.segment(0, 0), 0);
    }

    private static void flushRefused() {
        SegmentMerges x = new SegmentMerges();
        Check.due("flush of nothing", x.flush(), -3);
        x.put(1, 1);
        x.drop(1);
        Check.due("flush of what was dropped", x.flush(), -3);
        for (int s = 0; s < 20; s++) {
            Check.due("flush " + s, States.flushed(x, s, s), s);
        }
        Check.due("flush of nothing with 20 segments: -3 first", x.flush(), -3);
        x.put(50, 1);
        Check.due("flush with 20 segments", x.flush(), -4);
        Check.due("the memory keeps its row", x.count(0), 1);
        x.begin(0, 6);
        x.step(5);
        Check.due("a merge that goes on counts as its segments", x.flush(), -4);
        x.step(1);
        Check.due("flush behind its end", x.flush(), 21);
        Check.due("segments then", x.count(1), 16);
        Check.due("WRITTEN", x.count(4), 27);
    }

    private static void flushNumbersGoOn() {
        SegmentMerges x = new SegmentMerges();
        States.flushed(x, 1, 1);
        States.flushed(x, 2, 2);
        x.begin(0, 2);
        Check.due("a flush while merging takes the next number", States.flushed(x, 3, 3), 2);
        x.step(2);
        Check.due("the new one's number", x.segment(0, 0), 3);
        Check.due("the next flush's number", States.flushed(x, 4, 4), 4);
        Check.due("its place is the last", x.segment(2, 0), 4);
    }
}

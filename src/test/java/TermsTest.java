import java.util.Random;

/** Each sentence of "Terms" that names a boundary case, in a test of its own; refusals are RefusalsTest's. */
public final class TermsTest {
    private static final int[] NO_KEYS = {Integer.MIN_VALUE, -100, -1, 100, 101, Integer.MAX_VALUE};
    private static final int[] NO_VALUES = {Integer.MIN_VALUE, -1, 1000, 1001, Integer.MAX_VALUE};

    public static void main(String[] args) {
        keys();
        values();
        noneAtFirst();
        memoryAtMostSix();
        segmentsAtMostTwenty();
        eldestFirst();
        numbersOfAllThatWereMade();
        rowsByRisingKeys();
        segmentsNeverChange();
        oneRowOfAKey();
        rowDiesByPut();
        rowDiesOfTheSameValue();
        rowDiesOfNone();
        fullTiersAreTwoToFive();
        fullTiersAreThreeAtFirst();
        fullTiersAreNeighboursOfOneTier();
        leastTierCounts();
        eldestPlaceOfTheTier();
        writtenByFlush();
        writtenByMergesThatEnd();
        writtenByMergesGivenUp();
        Check.finish();
    }

    private static void keys() {
        Check.says("KEYS are 0 .. 99");
        int[] calls = {Face.PUT, Face.DROP, Face.GET, Face.NEXT};
        for (int call : calls) {
            for (int key : NO_KEYS) {
                SegmentMerges x = States.ofAllKeys();
                Check.due(Face.told(call, key, 5, 0), Face.answer(x, call, key, 5, 0), -1);
            }
        }
        SegmentMerges x = States.ofAllKeys();
        Check.due("keys that have a value", x.count(5), 100);
        for (int key = 0; key < 100; key++) {
            Check.due("get(" + key + ")", x.get(key), key);
        }
        x.view();
        for (int key : NO_KEYS) {
            Check.due("seen(0, " + key + ")", x.seen(0, key), -1);
        }
        Check.due("seen(0, 0)", x.seen(0, 0), 0);
        Check.due("seen(0, 99)", x.seen(0, 99), 99);
    }

    private static void values() {
        Check.says("VALUES 0 .. 999");
        SegmentMerges x = new SegmentMerges();
        for (int value : NO_VALUES) {
            Check.due("put(1, " + value + ")", x.put(1, value), -2);
        }
        Check.due("put(1, 0)", x.put(1, 0), 1);
        Check.due("get(1)", x.get(1), 0);
        Check.due("put(1, 999)", x.put(1, 999), 1);
        Check.due("get(1)", x.get(1), 999);
        for (int value : NO_VALUES) {
            Check.due("put(1, " + value + ") of a row that is there", x.put(1, value), -2);
        }
        Check.due("get(1)", x.get(1), 999);
    }

    private static void noneAtFirst() {
        Check.says("A KEY has a VALUE, or none (at first).");
        SegmentMerges x = new SegmentMerges();
        for (int key = 0; key < 100; key++) {
            Check.due("get(" + key + ")", x.get(key), -3);
            Check.due("next(" + key + ")", x.next(key), -3);
            Check.due("drop(" + key + ")", x.drop(key), 0);
        }
        x.view();
        Check.due("seen(0, 0)", x.seen(0, 0), -3);
        Check.due("keys that have a value", x.count(5), 0);
    }

    private static void memoryAtMostSix() {
        Check.says("THE MEMORY has at most 6 ROWS (a KEY and a VALUE)");
        SegmentMerges x = new SegmentMerges();
        for (int key = 0; key < 6; key++) {
            Check.due("put of row " + key, x.put(key, 1), key + 1);
        }
        Check.due("put of a seventh", x.put(6, 1), -4);
        Check.due("rows", x.count(0), 6);
        Check.due("flush", x.flush(), 0);
        Check.due("rows of the segment", x.segment(0, 2), 6);
    }

    private static void segmentsAtMostTwenty() {
        Check.says("SEGMENTS (20 at most)");
        SegmentMerges x = States.ofSingles(19);
        Check.due("the twentieth", States.flushed(x, 19, 190), 19);
        Check.due("no twenty-first", States.flushed(x, 20, 200), -4);
        Check.due("segments", x.count(1), 20);
        Check.due("the last one's number", x.segment(19, 0), 19);
        Check.due("none behind it", x.segment(20, 0), -1);
    }

    private static void eldestFirst() {
        Check.says("stand in THE ROW, the eldest first");
        SegmentMerges x = States.ofSingles(20);
        for (int place = 0; place < 20; place++) {
            Check.due("number at " + place, x.segment(place, 0), place);
        }
        States.merged(x, 4, 2);
        int[] numbers = {3, 20, 6};
        for (int i = 0; i < 3; i++) {
            Check.due("number at " + (3 + i), x.segment(3 + i, 0), numbers[i]);
        }
    }

    private static void numbersOfAllThatWereMade() {
        Check.says("each has a NUMBER (0, 1 .. of all that were made)");
        SegmentMerges x = new SegmentMerges();
        Check.due("the first flush", States.flushed(x, 1, 1), 0);
        Check.due("the second", States.flushed(x, 2, 2), 1);
        x.begin(0, 2);
        x.stop();
        States.merged(x, 0, 2);
        Check.due("a merge given up used none, the next one the next", x.segment(0, 0), 2);
        Check.due("a number never comes again", States.flushed(x, 3, 3), 3);
        Check.due("nothing to flush", x.flush(), -3);
        Check.due("a refused flush used none", States.flushed(x, 4, 4), 4);
    }

    private static void rowsByRisingKeys() {
        Check.says("and ROWS by rising KEYS, each living or dead");
        SegmentMerges x = new SegmentMerges();
        States.flushed(x, 99, 1, 50, 2, 98, 3, 0, 4, 1, 5, 49, 6);
        int[] keys = {0, 1, 49, 50, 98, 99};
        int[] values = {4, 5, 6, 2, 3, 1};
        x.drop(99);
        x.drop(0);
        for (int i = 0; i < 6; i++) {
            Check.due("key of row " + i, x.row(0, i, 0), keys[i]);
            Check.due("value of row " + i, x.row(0, i, 1), values[i]);
            Check.due("life of row " + i, x.row(0, i, 2), i == 0 || i == 5 ? 0 : 1);
        }
        States.flushed(x, 97, 7, 2, 8);
        States.merged(x, 0, 2);
        int[] merged = {1, 2, 49, 50, 97, 98};
        for (int i = 0; i < 6; i++) {
            Check.due("key of the merged row " + i, x.row(0, i, 0), merged[i]);
        }
    }

    private static void segmentsNeverChange() {
        Check.says("segments that are never changed but for their dead rows");
        SegmentMerges x = new SegmentMerges();
        States.flushed(x, 1, 1, 2, 2, 3, 3);
        x.put(1, 9);
        x.drop(2);
        Check.due("rows", x.segment(0, 2), 3);
        for (int i = 0; i < 3; i++) {
            Check.due("key of row " + i, x.row(0, i, 0), i + 1);
            Check.due("value of row " + i, x.row(0, i, 1), i + 1);
            Check.due("life of row " + i, x.row(0, i, 2), i == 2 ? 1 : 0);
        }
    }

    /** Runs of puts, drops, flushes and steps on few keys; then the rows of every key are counted. */
    private static void oneRowOfAKey() {
        Check.says("A KEY that has a VALUE has one ROW in THE MEMORY, or one living ROW in one SEGMENT;"
                + " one that has none has no such ROW.");
        for (int run = 0; run < 300; run++) {
            Random random = new Random(run);
            SegmentMerges x = new SegmentMerges();
            for (int c = 0; c < 150; c++) {
                int[] calls = {Face.PUT, Face.PUT, Face.PUT, Face.PUT, Face.DROP, Face.FLUSH, Face.BEGIN, Face.STEP};
                int call = calls[random.nextInt(calls.length)];
                int a = call == Face.STEP ? random.nextInt(9) : random.nextInt(call == Face.BEGIN ? 3 : 12);
                Face.answer(x, call, a, 2 + random.nextInt(2), 0);
            }
            rowsOfEveryKey(run, x);
        }
    }

    private static void rowsOfEveryKey(int run, SegmentMerges x) {
        int[] living = new int[12];
        int[] value = new int[12];
        for (int place = 0; place < x.count(1); place++) {
            for (int i = 0; i < x.segment(place, 2); i++) {
                if (x.row(place, i, 2) == 1) {
                    living[x.row(place, i, 0)]++;
                    value[x.row(place, i, 0)] = x.row(place, i, 1);
                }
            }
        }
        int inMemory = 0;
        for (int key = 0; key < 12; key++) {
            String told = "run " + run + ", key " + key;
            if (x.get(key) == -3) {
                Check.due(told + " of none: living rows", living[key], 0);
            } else if (living[key] == 0) {
                inMemory++;
            } else {
                Check.due(told + ": living rows", living[key], 1);
                Check.due(told + ": value of the living row", value[key], x.get(key));
            }
        }
        Check.due("run " + run + ": rows in the memory", x.count(0), inMemory);
    }

    private static void rowDiesByPut() {
        Check.says("A ROW dies when its KEY gets a VALUE by put()");
        SegmentMerges x = States.ofSingles(2);
        Check.due("another value", x.put(1, 11), 1);
        Check.due("the row", x.row(1, 0, 2), 0);
        Check.due("another key's row", x.row(0, 0, 2), 1);
        Check.due("living ones", x.count(3), 1);
    }

    private static void rowDiesOfTheSameValue() {
        Check.says("A ROW dies when its KEY gets a VALUE by put(), the same one, too");
        SegmentMerges x = States.ofSingles(2);
        Check.due("the same value", x.put(1, 10), 1);
        Check.due("the row", x.row(1, 0, 2), 0);
        Check.due("living ones", x.count(3), 1);
        Check.due("keys that have a value", x.count(5), 2);
    }

    private static void rowDiesOfNone() {
        Check.says("A ROW dies when its KEY gets a VALUE by put(), the same one, too, or none.");
        SegmentMerges x = States.ofSingles(2);
        Check.due("drop", x.drop(0), 1);
        Check.due("the row", x.row(0, 0, 2), 0);
        Check.due("another key's row", x.row(1, 0, 2), 1);
        Check.due("living ones", x.count(3), 1);
        x.put(0, 0);
        Check.due("a new value does not wake it", x.row(0, 0, 2), 0);
    }

    private static void fullTiersAreTwoToFive() {
        Check.says("FULL TIERS: F (2 to 5, at first 3) neighbours of one TIER");
        for (int f = 2; f <= 5; f++) {
            SegmentMerges x = States.ofSingles(f - 1);
            Check.due("full(" + f + ")", x.full(f), 3);
            Check.due("one too few of " + f, x.due(), -3);
            States.flushed(x, 50, 5);
            Check.due("just " + f, x.due(), 0);
            States.flushed(x, 51, 5);
            Check.due("one more than " + f, x.due(), 0);
        }
        SegmentMerges x = States.ofSingles(6);
        Check.due("full(1)", x.full(1), -2);
        Check.due("full(6)", x.full(6), -2);
    }

    private static void fullTiersAreThreeAtFirst() {
        Check.says("at first 3");
        SegmentMerges x = States.ofSingles(2);
        Check.due("of two", x.due(), -3);
        States.flushed(x, 50, 5);
        Check.due("of three", x.due(), 0);
        Check.due("what it was", x.full(4), 3);
    }

    private static void fullTiersAreNeighboursOfOneTier() {
        Check.says("neighbours of one TIER");
        SegmentMerges x = States.ofSingles(5);
        States.merged(x, 1, 2);
        Check.due("tiers 0, 1, 0, 0", x.due(), -3);
        States.flushed(x, 50, 5);
        Check.due("tiers 0, 1, 0, 0, 0", x.due(), 2);
        x.full(5);
        Check.due("five, of two tiers", x.due(), -3);
    }

    private static void leastTierCounts() {
        Check.says("the least such TIER counts");
        SegmentMerges x = States.ofSingles(6);
        States.merged(x, 0, 2);
        States.merged(x, 1, 2);
        x.full(2);
        Check.due("tiers 1, 1, 0, 0", x.due(), 2);
        x.drop(4);
        x.drop(5);
        States.merged(x, 2, 2);
        Check.due("tiers 1, 1", x.due(), 0);
        States.flushed(x, 50, 5);
        Check.due("tiers 1, 1, 0: one of the least is not full", x.due(), 0);
    }

    private static void eldestPlaceOfTheTier() {
        Check.says("and there the eldest place");
        SegmentMerges x = States.ofSingles(7);
        States.merged(x, 2, 2);
        x.full(2);
        Check.due("tiers 0, 0, 1, 0, 0, 0", x.due(), 0);
        x.full(3);
        Check.due("three of them", x.due(), 3);
        States.merged(x, 0, 2);
        States.flushed(x, 50, 5);
        Check.due("tiers 1, 1, 0, 0, 0, 0: four in a row", x.due(), 2);
    }

    private static void writtenByFlush() {
        Check.says("WRITTEN are all ROWS that came into SEGMENTS by flush()");
        SegmentMerges x = new SegmentMerges();
        Check.due("at first", x.count(4), 0);
        States.fillMemory(x, 0);
        Check.due("of the memory none", x.count(4), 0);
        x.flush();
        Check.due("six", x.count(4), 6);
        x.put(0, 9);
        Check.due("a row that dies still counts", x.count(4), 6);
        x.flush();
        Check.due("seven", x.count(4), 7);
        x.flush();
        Check.due("a refused flush adds none", x.count(4), 7);
    }

    private static void writtenByMergesThatEnd() {
        Check.says("and those that MERGES wrote, counted when one ENDS");
        SegmentMerges x = States.ofSingles(3);
        x.drop(1);
        x.begin(0, 3);
        x.step(2);
        Check.due("it has not ended", x.count(4), 3);
        x.drop(0);
        x.step(1);
        Check.due("two were written, though one is dead", x.count(4), 5);
        x.drop(2);
        States.flushed(x, 3, 3);
        x.drop(3);
        States.merged(x, 0, 2);
        Check.due("one that wrote nothing adds none", x.count(4), 6);
    }

    private static void writtenByMergesGivenUp() {
        Check.says("or is given up");
        SegmentMerges x = States.ofSingles(4);
        x.drop(0);
        x.begin(0, 4);
        x.stop();
        Check.due("nothing taken", x.count(4), 4);
        x.begin(0, 4);
        x.step(3);
        Check.due("it goes on", x.count(4), 4);
        x.stop();
        Check.due("three taken, two written", x.count(4), 6);
        x.stop();
        Check.due("counted once", x.count(4), 6);
        States.merged(x, 0, 4);
        Check.due("written again", x.count(4), 9);
    }
}

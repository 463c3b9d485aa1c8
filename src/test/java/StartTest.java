/** Promise 12: start. */
public final class StartTest {
    public static void main(String[] args) {
        losesWhatWasNotWritten();
        goesThroughFromTheBeginning();
        goesThroughFromTheCheckpoint();
        takesTheNewestRegion();
        takesTheGreaterNumber();
        isAsAtFirstWithoutARegion();
        takesTheFirstNumber();
        everyOctetOfARegionCounts();
        takesOnlyRightRegions();
        takesNoPlaceWithoutAnOpenSegment();
        refusesRegionsWithWrongKeys();
        believesTheOpenSegment();
        dropsKeysWithoutARecord();
        takesTheEntriesOnly();
        takesKeysAtTheSegmentsEnd();
        takesOnlyRightRecords();
        everyOctetOfARecordCounts();
        setsTheClock();
        takesRecordsAtTheEdge();
        takesNoRecordBehindTheLastPlace();
        prefersTheRecordAtThePlace();
        takesTheSegmentThatIsNext();
        takesSegmentsOfTheLogOnly();
        takesTheNextOrderOnly();
        goesOnFromTheLastSegmentToTheFirst();
        hasZerosBehindThePlace();
        hasTheSegmentBehindTheOpenOne();
        knowsTheRecordsOfSegments();
        forgetsWhatIsSpent();
        Check.end();
    }

    private static void losesWhatWasNotWritten() {
        Run x = new Run();
        Check.due("start() of nothing", x.start(), 0);
        x.tick(5);
        Check.put(x, 1, 3);
        x.sync();
        Check.put(x, 1, 4);
        Check.put(x, 2, 4);
        x.tick(5);
        Check.due("start() as if power went", x.start(), 1);
        Check.due("size(1)", x.size(1), 3);
        Check.due("size(2)", x.size(2), -1);
        Check.due("told(0)", x.told(0), 2);
        Check.due("told(1): the TIME of the record", x.told(1), 5);
        Check.due("told(6)", x.told(6), 0);
        Check.due("told(9)", x.told(9), 0);
        Check.due("told(8)", x.told(8), 1);
    }

    private static void goesThroughFromTheBeginning() {
        Run x = new Run();
        Check.putMany(x, 1, 10);
        Check.put(x, 2, 3);
        x.remove(1);
        Check.put(x, 3, 3);
        x.remove(3);
        x.tick(3);
        Check.put(x, 3, 7);
        x.sync();
        Check.due("start()", x.start(), 15);
        int[] told = {16, 3, 9, 10 + 232 + 19 + 16 + 19 + 16 + 23, 54, 2, 0, 0};
        for (int what = 0; what < told.length; what++) {
            Check.due("told(" + what + ")", x.told(what), told[what]);
        }
        Check.due("size(1)", x.size(1), -1);
        Check.due("size(2)", x.size(2), 3);
        Check.due("value(3, 6)", x.value(3, 6), 7);
        Check.due("where(3, 2)", x.where(3, 2), 15);
        Check.due("segment(8, 0)", x.segment(8, 0), 1);
        Check.due("segment(9, 0)", x.segment(9, 0), 2);
        Check.due("segment(9, 3)", x.segment(9, 3), 2);
        Check.due("put(4)", x.put(4), 16);
        Check.due("checkpoint()", x.checkpoint(), 1);
        Check.due("disk(0, 5): REGION 0 has the turn", x.disk(0, 5), 1);
    }

    private static void goesThroughFromTheCheckpoint() {
        Run x = new Run();
        Check.put(x, 1, 3);
        Check.put(x, 2, 3);
        x.tick(50);
        x.checkpoint();
        Check.due("start()", x.start(), 0);
        Check.due("told(1)", x.told(1), 50);
        x.remove(1);
        Check.putMany(x, 3, 9);
        x.sync();
        Check.due("start()", x.start(), 10);
        Check.due("told(5)", x.told(5), 2);
        Check.due("told(7)", x.told(7), 1);
        Check.due("told(0)", x.told(0), 13);
        Check.due("size(1)", x.size(1), -1);
        Check.due("size(2)", x.size(2), 3);
        Check.due("checkpoint()", x.checkpoint(), 2);
        Check.due("disk(4, 5): the turn is the other's", x.disk(4, 5), 2);
        x.start();
        Check.due("checkpoint()", x.checkpoint(), 3);
        Check.due("disk(0, 5)", x.disk(0, 5), 3);
    }

    private static Run twoCheckpoints() {
        Run x = new Run();
        Check.put(x, 1, 3);
        x.checkpoint();
        Check.put(x, 2, 3);
        x.checkpoint();
        return x;
    }

    private static void takesTheNewestRegion() {
        Run x = twoCheckpoints();
        Check.due("start()", x.start(), 0);
        Check.due("told(7)", x.told(7), 2);
        x.poke(4, 40, 1);
        Check.due("start() with REGION 1 spoilt", x.start(), 1);
        Check.due("told(7)", x.told(7), 1);
        x.poke(0, 85, 1);
        Check.due("start() with both spoilt", x.start(), 2);
        Check.due("told(7)", x.told(7), 0);
        x.poke(0, 85, 1);
        x.poke(4, 40, 1);
        Check.forgeRegion(x, 0, 2, 4, 2);
        Check.due("start(): of the same, REGION 0", x.start(), 1);
        Check.due("checkpoint()", x.checkpoint(), 3);
        Check.due("disk(4, 5)", x.disk(4, 5), 3);
        Check.forgeRegion(x, 0, 2, 4, Integer.MAX_VALUE);
        x.start();
        Check.due("told(7)", x.told(7), Integer.MAX_VALUE);
    }

    /** "of both REGIONS the one with the greatest NUMBER that is RIGHT counts (of the same REGION 0)" */
    private static void takesTheGreaterNumber() {
        int[][] numbers = {{1, 1, 0}, {1, 2, 1}, {2, 1, 0}, {255, 256, 1}, {256, 255, 0},
            {Integer.MAX_VALUE, 1, 0}, {1, Integer.MAX_VALUE, 1}, {7, 7, 0},
            {-1, 1, 1}, {1, -1, 0}, {0, 1, 1}, {1, 0, 0}};
        for (int[] of : numbers) {
            Run x = twoCheckpoints();
            Check.forgeRegion(x, 0, 2, 4, of[0]);
            Check.forgeRegion(x, 1, 2, 4, of[1]);
            // The checkpoint of REGION 0 was made before the second record came.
            String what = " with " + of[0] + " and " + of[1];
            Check.due("start()" + what, x.start(), of[2] == 0 ? 1 : 0);
            Check.due("told(7)" + what, x.told(7), of[of[2]]);
            Check.due("told(5)" + what, x.told(5), 2);
        }
    }

    /** "if none is RIGHT, all is as at first (but the disk)" */
    private static void isAsAtFirstWithoutARegion() {
        Run x = new Run();
        x.tick(9);
        Check.put(x, 1, 3);
        x.checkpoint();
        x.poke(0, 0, 1);
        x.poke(8, 0, 1);
        Check.due("start()", x.start(), 0);
        int[] told = {1, 0, 0, 0, 56, 0, 0, 0, 3, 0};
        for (int what = 0; what < told.length; what++) {
            Check.due("told(" + what + ")", x.told(what), told[what]);
        }
        for (int segment = 8; segment < 64; segment++) {
            Check.due("segment(" + segment + ", 0)", x.segment(segment, 0), 0);
        }
        Check.due("size(1)", x.size(1), -1);
        Check.due("disk(8, 10)", x.disk(8, 10), 1);
        Check.due("put(2)", x.put(2), 1);
        Check.due("told(2)", x.told(2), 8);
        Check.due("segment(8, 3)", x.segment(8, 3), 1);
        Check.due("checkpoint()", x.checkpoint(), 1);
        Check.due("disk(0, 0): REGION 0 has the turn", x.disk(0, 0), 67);
        Check.due("disk(4, 0)", x.disk(4, 0), 0);
    }

    /** "NUMBER and SEQUENCE 1 or more": of the only checkpoint there is, which alone tells the CLOCK. */
    private static void takesTheFirstNumber() {
        for (int number = -1; number <= 2; number++) {
            Run x = new Run();
            Check.put(x, 1, 3);
            x.tick(50);
            x.checkpoint();
            Check.forgeRegion(x, 0, 2, 4, number);
            Check.due("start() with NUMBER " + number, x.start(), number < 1 ? 1 : 0);
            Check.due("told(1)", x.told(1), number < 1 ? 0 : 50);
            Check.due("told(7)", x.told(7), Math.max(number, 0));
        }
    }

    /** "the SUM behind": 93 octets are of the second checkpoint, those behind it are not. */
    private static void everyOctetOfARegionCounts() {
        for (int i = 0; i < 128; i++) {
            Run x = twoCheckpoints();
            x.poke(4, i, 1);
            x.start();
            Check.due("told(7) with octet " + i + " of REGION 1 poked", x.told(7), i < 93 ? 1 : 2);
        }
    }

    /** Whether a checkpoint of NUMBER 2, one of whose fields is forged, still counts. */
    private static void counts(String what, int at, int width, int number, boolean due) {
        Run x = twoCheckpoints();
        Check.forgeRegion(x, 1, at, width, number);
        x.start();
        Check.due(what + " " + number, x.told(7) == 1 ? 0 : 1, due ? 1 : 0);
    }

    private static void takesOnlyRightRegions() {
        int least = Integer.MIN_VALUE;
        int greatest = Integer.MAX_VALUE;
        counts("first octet", 0, 1, 66, false);
        counts("first octet", 0, 1, 67, true);
        counts("second octet", 1, 1, 81, false);
        counts("second octet", 1, 1, 80, true);
        counts("NUMBER", 2, 4, 0, false);
        counts("NUMBER", 2, 4, -1, false);
        counts("NUMBER", 2, 4, least, false);
        counts("NUMBER", 2, 4, 3, true);
        counts("NUMBER", 2, 4, greatest, true);
        counts("SEQUENCE", 6, 4, 0, false);
        counts("SEQUENCE", 6, 4, -1, false);
        counts("SEQUENCE", 6, 4, least, false);
        counts("SEQUENCE", 6, 4, 1, true);
        counts("SEQUENCE", 6, 4, greatest, true);
        counts("CLOCK", 10, 4, -1, false);
        counts("CLOCK", 10, 4, least, false);
        counts("CLOCK", 10, 4, 0, true);
        counts("CLOCK", 10, 4, greatest, true);
        counts("OPEN", 14, 1, 0, false);
        counts("OPEN", 14, 1, 1, false);
        counts("OPEN", 14, 1, 7, false);
        counts("OPEN", 14, 1, 8, true);
        counts("OPEN", 14, 1, 63, true);
        counts("OPEN", 14, 1, 64, false);
        counts("OPEN", 14, 1, 255, false);
        counts("PLACE", 15, 2, 0, false);
        counts("PLACE", 15, 2, 9, false);
        counts("PLACE", 15, 2, 10, true);
        counts("PLACE", 15, 2, 1024, true);
        counts("PLACE", 15, 2, 1025, false);
        counts("PLACE", 15, 2, 65535, false);
        counts("ORDER", 17, 4, -1, false);
        counts("ORDER", 17, 4, least, false);
        counts("ORDER", 17, 4, 0, true);
        counts("ORDER", 17, 4, greatest, true);
        counts("the segment of a key", 25, 1, 0, false);
        counts("the segment of a key", 25, 1, 7, false);
        counts("the segment of a key", 25, 1, 8, true);
        counts("the segment of a key", 25, 1, 63, true);
        counts("the segment of a key", 25, 1, 64, false);
        counts("the segment of a key", 25, 1, 255, false);
        counts("the segment of the last key", 30, 1, 7, false);
        counts("the segment of the last key", 30, 1, 64, false);
        counts("the place of a key", 26, 2, 0, false);
        counts("the place of a key", 26, 2, 9, false);
        counts("the place of a key", 26, 2, 10, true);
        counts("the place of a key", 26, 2, 1008, true);
        counts("the place of a key", 26, 2, 1009, false);
        counts("the place of a key", 26, 2, 65535, false);
        counts("the place of the last key", 31, 2, 9, false);
        counts("the place of the last key", 31, 2, 1009, false);
        counts("a segment", 33, 1, 0, true);
        counts("a segment", 33, 1, 1, true);
        counts("a segment", 33, 1, 2, false);
        counts("a segment", 33 + 55, 1, 1, true);
        counts("a segment", 33 + 55, 1, 2, false);
        counts("a segment", 33 + 55, 1, 255, false);
    }

    /** "the OPEN segment 0 with PLACE 0, or 8 .. 63 with 10 .. 1024" */
    private static void takesNoPlaceWithoutAnOpenSegment() {
        int[] places = {0, 1, 9, 10, 1024};
        for (int place : places) {
            Run x = twoCheckpoints();
            Check.setNumber(x, 4, 14, 1, 0);
            Check.forgeRegion(x, 1, 15, 2, place);
            x.start();
            Check.due("told(7) with no OPEN one and PLACE " + place, x.told(7), place == 0 ? 2 : 1);
        }
    }

    private static void refusesRegionsWithWrongKeys() {
        counts("a key (1 at first, 2 then)", 23, 2, 2, false);
        counts("a key", 23, 2, 3, false);
        counts("a key", 23, 2, 0, true);
        counts("the last key", 28, 2, 299, true);
        counts("the last key", 28, 2, 300, false);
        counts("the last key", 28, 2, 0, false);
        Run x = new Run();
        for (int key = 0; key < 300; key++) {
            x.put(key);
        }
        x.checkpoint();
        Check.due("start() with 300 keys", x.start(), 0);
        Check.setNumber(x, 0, 21, 2, 301);
        Check.setNumber(x, 0, 23 + 1500, 5, 0);
        Check.setNumber(x, 0, 23 + 1500, 2, 300);
        Check.setNumber(x, 0, 25 + 1500, 1, 8);
        Check.setNumber(x, 0, 26 + 1500, 2, 10);
        for (int i = 0; i < 56; i++) {
            Check.setNumber(x, 0, 28 + 1500 + i, 1, 1);
        }
        Check.setSum(x, 0, 0, 23 + 1505 + 56);
        x.start();
        Check.due("told(7) with 301 keys", x.told(7), 0);
        for (int keys = 0; keys <= 2; keys++) {
            Run y = twoCheckpoints();
            Check.setNumber(y, 4, 21, 2, keys);
            for (int i = 0; i < 56; i++) {
                Check.setNumber(y, 4, 23 + 5 * keys + i, 1, i == 0 ? 1 : 0);
            }
            Check.setSum(y, 4, 0, 79 + 5 * keys);
            y.start();
            Check.due("told(7) with " + keys + " keys", y.told(7), 2);
            Check.due("told(5)", y.told(5), keys);
        }
    }

    private static void believesTheOpenSegment() {
        Run x = twoCheckpoints();
        Check.setNumber(x, 4, 33, 1, 0);
        Check.setSum(x, 4, 0, 89);
        x.start();
        Check.due("segment(8, 0): OPEN though its octet is 0", x.segment(8, 0), 2);
        Check.due("told(4)", x.told(4), 55);
        Check.due("size(1)", x.size(1), 3);
        Check.setNumber(x, 4, 14, 1, 20);
        Check.setNumber(x, 4, 17, 4, 77);
        Check.setSum(x, 4, 0, 89);
        x.start();
        Check.due("told(2)", x.told(2), 20);
        Check.due("segment(20, 0)", x.segment(20, 0), 2);
        Check.due("segment(8, 0)", x.segment(8, 0), 0);
        Check.due("size(1): 8 is not USED", x.size(1), -1);
        Check.due("segment(20, 3): what its octets tell", x.segment(20, 3), 0);
        Check.putMany(x, 1, 9);
        Check.due("told(2)", x.told(2), 8);
        Check.due("segment(8, 3): ORDER as the checkpoint told, and 1", x.segment(8, 3), 78);
        withoutAnOpenSegment();
    }

    private static void withoutAnOpenSegment() {
        Run x = twoCheckpoints();
        Check.setNumber(x, 4, 14, 1, 0);
        Check.setNumber(x, 4, 15, 2, 0);
        Check.setSum(x, 4, 0, 89);
        Check.due("start()", x.start(), 0);
        Check.due("told(2)", x.told(2), 0);
        Check.due("told(3)", x.told(3), 0);
        Check.due("segment(8, 0)", x.segment(8, 0), 1);
        Check.due("size(1)", x.size(1), 3);
        Check.due("clean(1)", x.clean(1), 1);
        Check.due("where(1, 0)", x.where(1, 0), 9);
        Check.due("where(2, 1)", x.where(2, 1), 29);
        Check.due("segment(9, 3)", x.segment(9, 3), 2);
    }

    private static void dropsKeysWithoutARecord() {
        int[][] spoilt = {{8, 22}, {8, 25}, {8, 12}, {8, 10}, {8, 13}};
        for (int[] at : spoilt) {
            Run x = twoCheckpoints();
            x.poke(at[0], at[1], 3);
            x.start();
            Check.due("size(1) with " + at[1] + " poked", x.size(1), -1);
            Check.due("size(2) with " + at[1] + " poked", x.size(2), 3);
            Check.due("told(5)", x.told(5), 1);
        }
        Run x = twoCheckpoints();
        Check.forgeRecord(x, 8, 10, new int[] {1, 1, 3, 99, 5});
        x.start();
        Check.due("where(1, 2): whatever its SEQUENCE", x.where(1, 2), 99);
        Check.forgeRecord(x, 8, 10, new int[] {1, 3, 3, 99, 5});
        x.start();
        Check.due("size(1): the record is of another key", x.size(1), -1);
        Check.due("size(3)", x.size(3), -1);
        Check.forgeRecord(x, 8, 10, new int[] {2, 1, 0, 99, 5});
        x.start();
        Check.due("size(1): REMOVED", x.size(1), -1);
        Run y = twoCheckpoints();
        Check.forgeRegion(y, 1, 15, 2, 47);
        y.start();
        Check.due("size(2): it ends behind the PLACE", y.size(2), -1);
        Check.due("size(1)", y.size(1), 3);
        Check.forgeRegion(y, 1, 15, 2, 48);
        y.start();
        Check.due("size(2): it ends at the PLACE", y.size(2), 3);
        Run z = twoCheckpoints();
        Check.forgeRecord(z, 30, 10, new int[] {1, 2, 3, 2, 0});
        Check.forgeRegion(z, 1, 30, 1, 30);
        Check.forgeRegion(z, 1, 31, 2, 10);
        z.start();
        Check.due("size(2): 30 is not USED", z.size(2), -1);
        Check.forgeRegion(z, 1, 33 + 22, 1, 1);
        z.start();
        Check.due("where(2, 0): 30 is USED", z.where(2, 0), 30);
    }

    /** "the INDEX leads as it tells": the ORDER 8 and the 10 keys before them are no entry. */
    private static void takesTheEntriesOnly() {
        Run x = new Run();
        for (int key = 0; key <= 10; key++) {
            x.put(key);
        }
        x.remove(0);
        x.checkpoint();
        Check.forgeRegion(x, 0, 17, 4, 8);
        Check.due("start()", x.start(), 0);
        Check.due("told(7)", x.told(7), 1);
        Check.due("told(5)", x.told(5), 10);
        Check.due("size(0), whose record stood at 10 of segment 8", x.size(0), -1);
        Check.due("where(10, 1)", x.where(10, 1), 170);
    }

    /** A key's record at 1008, the last place: it has to lie within the segment. */
    private static void takesKeysAtTheSegmentsEnd() {
        for (int length = 0; length <= 2; length++) {
            Run x = twoCheckpoints();
            Check.forgeRegion(x, 1, 33 + 12, 1, 1);
            Check.forgeRegion(x, 1, 30, 1, 20);
            Check.forgeRegion(x, 1, 31, 2, 1008 - length / 2);
            Check.forgeRecord(x, 20, 1008 - length / 2, new int[] {1, 2, length, 2, 0});
            x.start();
            Check.due("told(7)", x.told(7), 2);
            Check.due("size(2) of " + length, x.size(2), length == 0 ? 0 : -1);
        }
        Run x = twoCheckpoints();
        Check.forgeRegion(x, 1, 33 + 12, 1, 1);
        Check.forgeRegion(x, 1, 30, 1, 20);
        Check.forgeRegion(x, 1, 31, 2, 1007);
        Check.forgeRecord(x, 20, 1007, new int[] {1, 2, 1, 2, 0});
        x.start();
        Check.due("size(2) of one that ends at 1024", x.size(2), 1);
        Check.due("where(2, 1)", x.where(2, 1), 1007);
    }

    private static void everyOctetOfARecordCounts() {
        for (int i = 0; i < 64; i++) {
            Run x = new Run();
            Check.put(x, 1, 3);
            x.sync();
            x.poke(8, i, 128);
            // 0 .. 9 are the HEAD, 10 .. 28 the record; what stands behind it does not matter.
            Check.due("start() with octet " + i + " poked", x.start(), i < 29 ? 0 : 1);
        }
    }

    /** "if its TIME is above it, the CLOCK" */
    private static void setsTheClock() {
        int[] times = {9, 10, 11, Integer.MAX_VALUE, -1};
        for (int time : times) {
            Run x = new Run();
            x.tick(10);
            Check.put(x, 1, 3);
            x.checkpoint();
            Check.forgeRecord(x, 8, 29, new int[] {1, 2, 0, 2, time});
            Check.due("start()", x.start(), 1);
            Check.due("told(1) with TIME " + time, x.told(1), Math.max(10, time));
            Check.due("where(2, 3)", x.where(2, 3), time);
        }
    }

    private static void recordCounts(String what, int[] record, boolean due) {
        Run x = new Run();
        x.tick(10);
        Check.put(x, 1, 3);
        x.sync();
        Check.forgeRecord(x, 8, 29, record);
        Check.due("start() with " + what, x.start(), due ? 2 : 1);
    }

    private static void takesOnlyRightRecords() {
        recordCounts("a PUT", new int[] {1, 2, 5, 2, 10}, true);
        recordCounts("a REMOVED", new int[] {2, 1, 0, 2, 10}, true);
        recordCounts("a REMOVED of a key without a value", new int[] {2, 9, 0, 2, 10}, true);
        recordCounts("kind 0", new int[] {0, 2, 0, 2, 10}, false);
        recordCounts("kind 3", new int[] {3, 2, 0, 2, 10}, false);
        recordCounts("kind 129", new int[] {129, 2, 0, 2, 10}, false);
        recordCounts("key 299", new int[] {1, 299, 0, 2, 10}, true);
        recordCounts("key 300", new int[] {1, 300, 0, 2, 10}, false);
        recordCounts("100 octets", new int[] {1, 2, 100, 2, 10}, true);
        recordCounts("101 octets", new int[] {1, 2, 101, 2, 10}, false);
        recordCounts("200 octets", new int[] {1, 2, 200, 2, 10}, false);
        recordCounts("a REMOVED of 1 octet", new int[] {2, 1, 1, 2, 10}, false);
        recordCounts("SEQUENCE 1", new int[] {1, 2, 5, 1, 10}, false);
        recordCounts("SEQUENCE 3", new int[] {1, 2, 5, 3, 10}, false);
        recordCounts("an old TIME", new int[] {1, 2, 5, 2, -10}, true);
        Run x = new Run();
        x.tick(10);
        Check.put(x, 1, 3);
        x.sync();
        Check.forgeRecord(x, 8, 29, new int[] {1, 2, 5, 2, 70});
        Check.forgeRecord(x, 8, 50, new int[] {1, 3, 5, 3, 60});
        Check.due("start()", x.start(), 3);
        Check.due("told(1): the greatest TIME", x.told(1), 70);
        x.poke(8, 50 + 17, 1);
        Check.due("start() with a wrong SUM", x.start(), 2);
        Check.due("told(0)", x.told(0), 3);
    }

    private static void takesRecordsAtTheEdge() {
        for (int length = 55; length <= 57; length++) {
            Run x = new Run();
            Check.putMany(x, 1, 8);
            Check.put(x, 2, 52);
            x.sync();
            Check.due("told(3)", x.told(3), 1006);
            Check.forgeRecord(x, 8, 1006, new int[] {1, 3, length - 53, 10, 0});
            Check.due("start() with a record to " + (1006 + 16 + length - 53), x.start(), length == 55 ? 10 : 9);
        }
    }

    /** At 1009 to 1024 not even an empty record lies within the segment. */
    private static void takesNoRecordBehindTheLastPlace() {
        for (int place = 1008; place <= 1024; place += place < 1010 ? 1 : 14) {
            Run x = new Run();
            Check.fillTo(x, 1, place);
            x.sync();
            int next = x.told(0);
            Check.forgeRecord(x, 8, place, new int[] {1, 2, 0, next, 0});
            x.start();
            Check.due("size(2) with a record at " + place, x.size(2), place == 1008 ? 0 : -1);
            Check.due("told(3)", x.told(3), place == 1008 ? 1024 : place);
        }
    }

    /** Only where no record counts the next segment is looked for. */
    private static void prefersTheRecordAtThePlace() {
        Run x = new Run();
        Check.put(x, 1, 3);
        x.sync();
        Check.forgeHead(x, 9, 2);
        Check.forgeRecord(x, 9, 10, new int[] {1, 5, 0, 2, 0});
        Check.due("start()", x.start(), 2);
        Check.due("where(5, 0)", x.where(5, 0), 9);
        Check.forgeRecord(x, 8, 29, new int[] {1, 6, 0, 2, 0});
        Check.due("start()", x.start(), 2);
        Check.due("where(6, 0)", x.where(6, 0), 8);
        Check.due("size(5)", x.size(5), -1);
        Check.due("told(2)", x.told(2), 8);
        Check.forgeRecord(x, 9, 10, new int[] {1, 5, 0, 3, 0});
        Check.due("start()", x.start(), 3);
        Check.due("told(2)", x.told(2), 9);
        Check.due("told(3)", x.told(3), 26);
        Check.due("segment(8, 0)", x.segment(8, 0), 1);
    }

    /** The segments 8 .. 63 are of THE LOG, 0 .. 7 are not. */
    private static void takesSegmentsOfTheLogOnly() {
        int[] segments = {0, 4, 7, 8, 9, 62, 63};
        for (int segment : segments) {
            Run x = new Run();
            Check.forgeHead(x, segment, 1);
            Check.forgeRecord(x, segment, 10, new int[] {1, 4, 2, 1, 6});
            Check.due("start() with a record in " + segment, x.start(), segment < 8 ? 0 : 1);
            Check.due("told(2)", x.told(2), segment < 8 ? 0 : segment);
        }
    }

    /** "a HEAD with the next ORDER (at first 1)" */
    private static void takesTheNextOrderOnly() {
        int[] orders = {-1, 0, 1, 2, 257, Integer.MAX_VALUE};
        for (int order : orders) {
            Run x = new Run();
            Check.forgeHead(x, 8, order);
            Check.forgeRecord(x, 8, 10, new int[] {1, 4, 2, 1, 6});
            Check.due("start() at first with ORDER " + order, x.start(), order == 1 ? 1 : 0);
        }
        for (int order = 76; order <= 79; order++) {
            Run x = twoCheckpoints();
            Check.forgeRegion(x, 1, 17, 4, 77);
            Check.forgeHead(x, 12, order);
            Check.forgeRecord(x, 12, 10, new int[] {1, 4, 2, 3, 6});
            Check.due("start() behind 77 with ORDER " + order, x.start(), order == 78 ? 1 : 0);
        }
    }

    private static void goesOnFromTheLastSegmentToTheFirst() {
        Run x = new Run();
        int[] segments = {63, 8, 30, 9};
        for (int i = 0; i < segments.length; i++) {
            Check.forgeHead(x, segments[i], i + 1);
            Check.forgeRecord(x, segments[i], 10, new int[] {1, i, 0, 2 * i + 1, 0});
            Check.forgeRecord(x, segments[i], 26, new int[] {1, 100 + i, 0, 2 * i + 2, 0});
        }
        Check.due("start()", x.start(), 8);
        Check.due("told(0)", x.told(0), 9);
        Check.due("told(2)", x.told(2), 9);
        Check.due("told(3)", x.told(3), 42);
        Check.due("told(4)", x.told(4), 52);
        for (int i = 0; i < segments.length; i++) {
            Check.due("where(" + i + ", 0)", x.where(i, 0), segments[i]);
            Check.due("segment(" + segments[i] + ", 3)", x.segment(segments[i], 3), i + 1);
        }
        Check.fillTo(x, 0, 1018);
        x.put(0);
        Check.due("told(2): the least FREE one", x.told(2), 10);
        Check.due("segment(10, 3)", x.segment(10, 3), 5);
    }

    private static void takesTheSegmentThatIsNext() {
        Run x = new Run();
        Check.forgeHead(x, 40, 1);
        Check.forgeRecord(x, 40, 10, new int[] {1, 4, 2, 1, 6});
        Check.due("start()", x.start(), 1);
        Check.due("told(2)", x.told(2), 40);
        Check.due("told(3)", x.told(3), 28);
        Check.due("told(1)", x.told(1), 6);
        Check.due("segment(40, 3)", x.segment(40, 3), 1);
        Check.forgeHead(x, 30, 1);
        Check.forgeRecord(x, 30, 10, new int[] {1, 5, 2, 1, 6});
        Check.due("start()", x.start(), 1);
        Check.due("told(2): the least number", x.told(2), 30);
        Check.forgeRecord(x, 30, 10, new int[] {1, 5, 2, 2, 6});
        x.start();
        Check.due("told(2): no record counts in 30", x.told(2), 40);
        Check.forgeHead(x, 30, 2);
        Check.due("start(): 40, then 30", x.start(), 2);
        Check.due("told(2)", x.told(2), 30);
        Check.forgeHead(x, 30, 3);
        Check.due("start(): the ORDER is not the next one", x.start(), 1);
        Check.forgeHead(x, 30, 2);
        x.poke(30, 9, 1);
        Check.due("start(): the SUM of the HEAD is wrong", x.start(), 1);
        x.poke(30, 9, 1);
        x.poke(30, 0, 1);
        Check.setSum(x, 30, 0, 6);
        Check.due("start(): no 76", x.start(), 1);
        x.poke(30, 0, 1);
        x.poke(30, 1, 1);
        Check.setSum(x, 30, 0, 6);
        Check.due("start(): no 71", x.start(), 1);
        usedSegmentsAreNotNext();
    }

    private static void usedSegmentsAreNotNext() {
        Run x = twoCheckpoints();
        Check.forgeHead(x, 9, 2);
        Check.forgeRecord(x, 9, 10, new int[] {1, 4, 2, 3, 6});
        Check.due("start()", x.start(), 1);
        Check.forgeRegion(x, 1, 34, 1, 1);
        Check.due("start() when it is told as USED", x.start(), 0);
        Check.due("told(2)", x.told(2), 8);
    }

    private static void hasZerosBehindThePlace() {
        Run x = new Run();
        Check.put(x, 1, 3);
        x.sync();
        for (int i = 29; i < 200; i++) {
            x.poke(8, i, 77);
        }
        Check.due("start()", x.start(), 1);
        Check.due("disk(8, 29): the disk stays", x.disk(8, 29), 77);
        x.put(2);
        x.sync();
        Check.due("disk(8, 45)", x.disk(8, 45), 0);
        Check.due("disk(8, 63)", x.disk(8, 63), 0);
        Check.due("disk(8, 64)", x.disk(8, 64), 77);
        Check.put(x, 3, 3);
        x.sync();
        Check.due("disk(8, 64): the SECTOR of 0s", x.disk(8, 64), 0);
        Check.due("disk(8, 128)", x.disk(8, 128), 77);
    }

    /** "MEMORY then has the segments as the disk has them": also that behind the OPEN one. */
    private static void hasTheSegmentBehindTheOpenOne() {
        Run x = new Run();
        Check.fillTo(x, 0, 1018);
        Check.put(x, 20, 50);
        Check.fillTo(x, 0, 1000);
        Check.put(x, 21, 8);
        x.put(0);
        Check.due("told(2)", x.told(2), 10);
        Check.due("clean(1)", x.clean(1), 1);
        x.checkpoint();
        Check.fillTo(x, 0, 1018);
        Check.put(x, 22, 90);
        x.sync();
        Check.due("told(2)", x.told(2), 8);
        Check.due("where(20, 0)", x.where(20, 0), 9);
        x.start();
        Check.due("told(2)", x.told(2), 8);
        Check.due("size(20)", x.size(20), 50);
        Check.due("value(20, 49)", x.value(20, 49), 50);
        Check.due("size(21)", x.size(21), 8);
        Check.due("value(21, 7)", x.value(21, 7), 8);
        Check.due("where(21, 1)", x.where(21, 1), 1000);
        Check.due("size(22)", x.size(22), 90);
        Check.due("value(22, 89)", x.value(22, 89), 90);
        Check.due("segment(9, 3)", x.segment(9, 3), 2);
        Check.due("clean(8)", x.clean(8), 2);
        Check.due("value(20, 49) when it is copied", x.value(20, 49), 50);
        Check.due("value(21, 7)", x.value(21, 7), 8);
    }

    private static void knowsTheRecordsOfSegments() {
        Run x = new Run();
        x.tick(20);
        Check.put(x, 1, 3);
        x.tick(20);
        Check.put(x, 2, 3);
        x.checkpoint();
        x.start();
        Check.due("segment(8, 2)", x.segment(8, 2), 40);
        x.poke(8, 41, 1);
        x.start();
        Check.due("segment(8, 2): the second is spoilt", x.segment(8, 2), 20);
        x.poke(8, 22, 1);
        x.poke(8, 41, 1);
        x.start();
        Check.due("segment(8, 2): the first is", x.segment(8, 2), 0);
        Check.due("segment(8, 1): the second lives all the same", x.segment(8, 1), 19);
        x.put(3);
        Check.due("segment(8, 2): one came behind it", x.segment(8, 2), 40);
        x.poke(8, 3, 1);
        x.start();
        Check.due("segment(8, 3): what the octets tell", x.segment(8, 3), 65537);
        Run y = new Run();
        y.tick(20);
        Check.put(y, 1, 3);
        y.checkpoint();
        Check.forgeRecord(y, 8, 29, new int[] {1, 2, 5, 9, 90});
        y.start();
        Check.due("segment(8, 2): behind the PLACE", y.segment(8, 2), 20);
        Check.forgeRegion(y, 0, 14, 1, 9);
        Check.forgeRegion(y, 0, 15, 2, 10);
        y.start();
        Check.due("segment(8, 2): not OPEN, whatever their SEQUENCE", y.segment(8, 2), 90);
        Check.forgeRecord(y, 8, 10, new int[] {1, 2, 3, 9, -7});
        y.poke(8, 29, 7);
        y.start();
        Check.due("segment(8, 2): below 0", y.segment(8, 2), -7);
    }

    private static void forgetsWhatIsSpent() {
        Run x = new Run();
        Check.putMany(x, 1, 9);
        x.checkpoint();
        x.clean(1);
        Check.due("segment(8, 0)", x.segment(8, 0), 3);
        x.sync();
        Check.due("start()", x.start(), 0);
        Check.due("segment(8, 0)", x.segment(8, 0), 1);
        Check.put(x, 2, 1);
        x.clean(1);
        x.cut(1, 0);
        x.checkpoint();
        x.start();
        Check.due("segment(8, 0): the checkpoint was not done", x.segment(8, 0), 1);
        Check.due("told(4)", x.told(4), 54);
        Run y = new Run();
        Check.fillTo(y, 1, 1018);
        y.put(1);
        y.clean(1);
        Check.due("segment(8, 0)", y.segment(8, 0), 3);
        Check.due("start() when nothing was written", y.start(), 0);
        Check.due("segment(8, 0): FREE", y.segment(8, 0), 0);
        Check.due("told(4)", y.told(4), 56);
    }
}

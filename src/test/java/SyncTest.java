/** Promise 7: sync. */
public final class SyncTest {
    public static void main(String[] args) {
        writesWhatIsNew();
        writesNothingWhenNothingCame();
        writesToTheEndOfASector();
        writesFromTheBeginningOfASector();
        writesASectorOfZeros();
        zerosComeFirst();
        writesNoZerosBehindTheSegment();
        writesZerosInSegmentsThatAreLeft();
        writesZerosBehindWhatCame();
        writesSectorsWhole();
        writesSectorsFromTheLowestOn();
        writesSegmentsAsTheyWereOpened();
        olderSegmentWithTheGreaterNumberFirst();
        leavesTheRestOfAnOldSegment();
        writesSpentSegments();
        writesSpentSegmentsInTheirOrder();
        failsWithPower();
        Check.end();
    }

    private static void writesWhatIsNew() {
        Run x = new Run();
        Check.put(x, 1, 100);
        Check.due("disk(8, 0) before", x.disk(8, 0), 0);
        Check.due("sync() of 0 .. 125", x.sync(), 2);
        Check.due("told(6)", x.told(6), 0);
        Check.due("told(8)", x.told(8), 2);
        x.put(2);
        Check.due("told(6)", x.told(6), 16);
        Check.due("sync() of 126 .. 141", x.sync(), 2);
        Check.put(x, 3, 20);
        Check.due("sync() of 142 .. 177", x.sync(), 1);
        Check.due("told(8)", x.told(8), 5);
        x.remove(3);
        Check.due("sync() of 178 .. 193", x.sync(), 2);
    }

    private static void writesNothingWhenNothingCame() {
        Run x = new Run();
        Check.due("sync() of an empty store", x.sync(), 0);
        x.cut(1, 0);
        Check.due("sync() of nothing, with power that would go", x.sync(), 0);
        x.cut(0, 0);
        x.put(1);
        x.sync();
        Check.due("sync() again", x.sync(), 0);
        x.tick(5);
        x.feed(1, 0);
        x.put(300);
        x.remove(2);
        Check.due("sync() behind calls that bring nothing", x.sync(), 0);
        x.put(1);
        x.checkpoint();
        Check.due("sync() behind checkpoint()", x.sync(), 0);
        x.put(1);
        x.start();
        Check.due("sync() behind start()", x.sync(), 0);
        x.put(1);
        x.sync();
        Check.due("told(3)", x.told(3), 58);
        Check.put(x, 1, 54);
        Check.due("sync() that ends at 128", x.sync(), 3);
        Check.due("sync() again: no SECTOR of 0s", x.sync(), 0);
    }

    /** A SECTOR has 64 octets: what ends at 63, at 64, and at 65. */
    private static void writesToTheEndOfASector() {
        int[] due = {1, 2, 2};
        for (int end = 63; end <= 65; end++) {
            Run x = new Run();
            x.poke(8, 64, 200);
            x.poke(8, 128, 200);
            Check.put(x, 1, end - 26);
            Check.due("sync() that ends at " + end, x.sync(), due[end - 63]);
            Check.due("disk(8, 64)", x.disk(8, 64) == 200 ? 1 : 0, end == 63 ? 1 : 0);
            Check.due("disk(8, 128)", x.disk(8, 128), 200);
        }
    }

    private static void writesFromTheBeginningOfASector() {
        for (int begin = 63; begin <= 65; begin++) {
            Run x = new Run();
            Check.put(x, 1, begin - 26);
            x.sync();
            x.poke(8, 0, 1);
            x.put(2);
            Check.due("sync() of what begins at " + begin, x.sync(), begin == 63 ? 2 : 1);
            Check.due("disk(8, 0) is written again", x.disk(8, 0), begin == 63 ? 76 : 77);
        }
    }

    /** "if what came in it ends at the end of a SECTOR, but not of the segment, the SECTOR behind that, all 0" */
    private static void writesASectorOfZeros() {
        Run x = new Run();
        for (int i = 60; i < 192; i++) {
            x.poke(8, i, 255);
        }
        Check.put(x, 1, 38);
        Check.due("sync() that ends at 64", x.sync(), 2);
        for (int i = 64; i < 128; i++) {
            Check.due("disk(8, " + i + ")", x.disk(8, i), 0);
        }
        Check.due("disk(8, 128)", x.disk(8, 128), 255);
        x.put(1);
        Check.due("sync() of 64 .. 79", x.sync(), 1);
        Check.due("disk(8, 64)", x.disk(8, 64), 1);
        Check.fillTo(x, 1, 960);
        Check.due("sync() that ends at 960", x.sync(), 1 + 14);
        x.put(1);
        Check.due("sync() of 960 .. 975", x.sync(), 1);
    }

    /** "first .. the SECTOR behind that, all 0; then the SECTORS in which there is something new" */
    private static void zerosComeFirst() {
        for (int n = 1; n <= 2; n++) {
            Run x = new Run();
            x.poke(8, 64, 9);
            Check.put(x, 1, 38);
            x.cut(n, 0);
            Check.due("sync()", x.sync(), -5);
            Check.due("disk(8, 64)", x.disk(8, 64), n == 1 ? 9 : 0);
            Check.due("disk(8, 0)", x.disk(8, 0), 0);
        }
    }

    private static void writesNoZerosBehindTheSegment() {
        for (int end = 1023; end <= 1024; end++) {
            Run x = new Run();
            x.poke(8, 1023, 5);
            x.poke(9, 0, 5);
            Check.fillTo(x, 1, end);
            Check.due("sync() that ends at " + end, x.sync(), 16);
            Check.due("disk(8, 1023) is written", x.disk(8, 1023) == 5 ? 1 : 0, 0);
            Check.due("disk(9, 0) stays", x.disk(9, 0), 5);
            Check.due("sync() of nothing", x.sync(), 0);
        }
    }

    /** The SECTOR of 0s of a segment that is not OPEN any more. */
    private static void writesZerosInSegmentsThatAreLeft() {
        for (int end = 959; end <= 961; end++) {
            Run x = new Run();
            x.poke(8, 1000, 5);
            Check.fillTo(x, 1, end);
            Check.put(x, 1, 60);
            Check.due("told(2)", x.told(2), 9);
            Check.due("sync() with 8 that ends at " + end, x.sync(), (end == 959 ? 15 : 16) + 2);
            Check.due("disk(8, 1000)", x.disk(8, 1000), end == 959 ? 5 : 0);
        }
    }

    /** "(behind what came in it 0)" */
    private static void writesZerosBehindWhatCame() {
        Run x = new Run();
        for (int i = 40; i < 130; i++) {
            x.poke(8, i, 255);
        }
        x.put(1);
        x.put(1);
        Check.due("sync() of 0 .. 41", x.sync(), 1);
        Check.due("disk(8, 42)", x.disk(8, 42), 0);
        Check.due("disk(8, 63)", x.disk(8, 63), 0);
        Check.due("disk(8, 64)", x.disk(8, 64), 255);
    }

    /** "each whole as MEMORY has it" */
    private static void writesSectorsWhole() {
        Run x = new Run();
        Check.put(x, 1, 100);
        x.sync();
        int before = x.disk(8, 64);
        x.poke(8, 10, 3);
        x.poke(8, 64, 3);
        x.put(2);
        x.sync();
        Check.due("disk(8, 64): in the SECTOR of 126", x.disk(8, 64), before);
        Check.due("disk(8, 10): in another one", x.disk(8, 10), 2);
    }

    private static void writesSectorsFromTheLowestOn() {
        for (int n = 1; n <= 3; n++) {
            Run x = new Run();
            Check.put(x, 1, 100);
            Check.put(x, 2, 3);
            x.cut(n, 0);
            Check.due("sync()", x.sync(), -5);
            Check.due("disk(8, 0)", x.disk(8, 0), n > 1 ? 76 : 0);
            Check.due("disk(8, 64)", x.disk(8, 64), n > 2 ? 43 : 0);
            Check.due("disk(8, 144)", x.disk(8, 144), 0);
        }
    }

    /** "segment by segment, in the order in which they were opened" */
    private static void writesSegmentsAsTheyWereOpened() {
        Run x = new Run();
        Check.putMany(x, 1, 17);
        Check.due("told(6)", x.told(6), 938 + 938 + 126);
        x.cut(15 + 15 + 1, 0);
        Check.due("sync()", x.sync(), -5);
        Check.due("disk(8, 0)", x.disk(8, 0), 76);
        Check.due("disk(9, 0)", x.disk(9, 0), 76);
        Check.due("disk(9, 937)", x.disk(9, 937) != 0 ? 1 : 0, 1);
        Check.due("disk(10, 0)", x.disk(10, 0), 0);
        Check.due("told(8)", x.told(8), 30);
    }

    private static void olderSegmentWithTheGreaterNumberFirst() {
        Run x = new Run();
        Check.putMany(x, 1, 9);
        x.clean(1);
        x.checkpoint();
        Check.due("segment(8, 0)", x.segment(8, 0), 0);
        Check.putMany(x, 1, 8);
        Check.due("told(2)", x.told(2), 8);
        x.cut(15, 0);
        Check.due("sync()", x.sync(), -5);
        Check.due("disk(9, 937): the 14 new SECTORS of 9 come first", x.disk(9, 937) != 0 ? 1 : 0, 1);
        Check.due("disk(8, 5): nothing of the new 8", x.disk(8, 5), 1);
    }

    /** Only SECTORS with something new are written of a segment that is USED again. */
    private static void leavesTheRestOfAnOldSegment() {
        Run x = new Run();
        Check.putMany(x, 1, 9);
        x.clean(1);
        x.checkpoint();
        Check.putMany(x, 1, 7);
        x.sync();
        Check.put(x, 2, 100);
        Check.due("told(2)", x.told(2), 8);
        int old = Check.number(x, 8, 128, 4);
        Check.due("sync() of 0 .. 125", x.sync(), 2);
        Check.due("disk(8, 126)", x.disk(8, 126), 0);
        Check.due("disk(8, 128): as it was", Check.number(x, 8, 128, 4), old);
        Check.due("that was something", old != 0 ? 1 : 0, 1);
    }

    /** "what came in them since the last SYNC is written by the next one all the same" */
    private static void writesSpentSegments() {
        Run x = new Run();
        Check.putMany(x, 1, 9);
        Check.due("clean(1)", x.clean(1), 1);
        Check.due("told(6)", x.told(6), 938 + 126);
        Check.due("sync()", x.sync(), 15 + 2);
        Check.due("disk(8, 0)", x.disk(8, 0), 76);
        Check.due("disk(8, 937)", x.disk(8, 937) != 0 ? 1 : 0, 1);
        Check.due("segment(8, 0)", x.segment(8, 0), 3);
    }

    private static void writesSpentSegmentsInTheirOrder() {
        Run x = new Run();
        Check.putMany(x, 1, 9);
        x.clean(1);
        x.cut(15, 63);
        Check.due("sync()", x.sync(), -5);
        Check.due("disk(8, 800)", x.disk(8, 800) != 0 ? 1 : 0, 1);
        Check.due("disk(9, 0): 8 comes before it", x.disk(9, 0), 0);
    }

    private static void failsWithPower() {
        Run x = new Run();
        x.put(1);
        x.cut(1, 12);
        Check.due("sync()", x.sync(), -5);
        Check.due("sync() when down", x.sync(), -3);
        Check.due("told(8)", x.told(8), 0);
        Check.due("disk(8, 10)", x.disk(8, 10), 1);
        Check.due("disk(8, 17): the SEQUENCE was not written", x.disk(8, 17), 0);
        x.start();
        x.put(1);
        x.cut(2, 0);
        Check.due("sync() of one when the second would fail", x.sync(), 1);
    }
}

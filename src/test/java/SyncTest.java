/** Promise 7: sync. */
public final class SyncTest {
    public static void main(String[] args) {
        writesWhatIsNew();
        writesASectorOfZeros();
        writesSegmentsAsTheyWereOpened();
        writesSpentSegments();
        failsWithPower();
        Check.end();
    }

    private static void writesWhatIsNew() {
        AgedLog x = new AgedLog();
        Check.due("sync() of nothing", x.sync(), 0);
        Check.put(x, 1, 100);
        Check.due("disk(8, 0) before", x.disk(8, 0), 0);
        Check.due("sync() of 0 .. 125", x.sync(), 2);
        Check.due("told(6)", x.told(6), 0);
        Check.due("told(8)", x.told(8), 2);
        Check.due("sync() again", x.sync(), 0);
        x.put(2);
        Check.due("told(6)", x.told(6), 16);
        Check.due("sync() of 126 .. 141", x.sync(), 2);
        Check.put(x, 3, 20);
        Check.due("sync() of 142 .. 177", x.sync(), 1);
        Check.due("told(8)", x.told(8), 5);
    }

    private static void writesASectorOfZeros() {
        AgedLog x = new AgedLog();
        for (int i = 0; i < 1024; i++) {
            x.poke(8, i, 255);
        }
        Check.put(x, 1, 38);
        Check.due("sync() that ends at 64", x.sync(), 2);
        Check.due("disk(8, 64)", x.disk(8, 64), 0);
        Check.due("disk(8, 127)", x.disk(8, 127), 0);
        Check.due("disk(8, 128)", x.disk(8, 128), 255);
        x.put(1);
        Check.due("sync() of 64 .. 79", x.sync(), 1);
        Check.due("disk(8, 64)", x.disk(8, 64), 1);
        AgedLog y = new AgedLog();
        Check.putMany(y, 1, 8);
        Check.put(y, 2, 70);
        Check.due("sync() that ends at 1024", y.sync(), 16);
        AgedLog z = new AgedLog();
        Check.putMany(z, 1, 8);
        z.put(1);
        Check.due("sync() that ends at 954", z.sync(), 15);
        Check.due("disk(8, 954)", z.disk(8, 954), 0);
        zerosComeFirst();
    }

    private static void zerosComeFirst() {
        AgedLog x = new AgedLog();
        x.poke(8, 64, 1);
        Check.put(x, 1, 38);
        x.cut(2, 0);
        Check.due("sync()", x.sync(), -5);
        Check.due("disk(8, 64)", x.disk(8, 64), 0);
        Check.due("disk(8, 0)", x.disk(8, 0), 0);
    }

    private static void writesSegmentsAsTheyWereOpened() {
        AgedLog x = new AgedLog();
        Check.putMany(x, 1, 17);
        Check.due("told(6)", x.told(6), 938 + 938 + 126);
        x.cut(15 + 15 + 1, 0);
        Check.due("sync()", x.sync(), -5);
        Check.due("disk(8, 0)", x.disk(8, 0), 76);
        Check.due("disk(9, 0)", x.disk(9, 0), 76);
        Check.due("disk(10, 0)", x.disk(10, 0), 0);
        Check.due("told(8)", x.told(8), 30);
        olderSegmentWithTheGreaterNumberFirst();
    }

    private static void olderSegmentWithTheGreaterNumberFirst() {
        AgedLog x = new AgedLog();
        Check.putMany(x, 1, 9);
        x.clean(1);
        x.checkpoint();
        Check.due("segment(8, 0)", x.segment(8, 0), 0);
        Check.putMany(x, 1, 8);
        Check.due("told(2)", x.told(2), 8);
        x.cut(15, 0);
        Check.due("sync()", x.sync(), -5);
        Check.due("disk(9, 937): the 14 new SECTORS of 9 come first", x.disk(9, 937) != 0 ? 1 : 0, 1);
        Check.due("disk(8, 5): nothing of the new 8", x.disk(8, 5), 1);
    }

    private static void writesSpentSegments() {
        AgedLog x = new AgedLog();
        Check.putMany(x, 1, 9);
        Check.due("clean(1)", x.clean(1), 1);
        Check.due("told(6)", x.told(6), 938 + 126);
        Check.due("sync()", x.sync(), 15 + 2);
        Check.due("disk(8, 0)", x.disk(8, 0), 76);
    }

    private static void failsWithPower() {
        AgedLog x = new AgedLog();
        x.put(1);
        x.cut(1, 12);
        Check.due("sync()", x.sync(), -5);
        Check.due("sync() when down", x.sync(), -3);
        Check.due("told(8)", x.told(8), 0);
        Check.due("disk(8, 10)", x.disk(8, 10), 1);
        Check.due("disk(8, 17): the SEQUENCE was not written", x.disk(8, 17), 0);
    }
}

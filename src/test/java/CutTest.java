/** Promise 11: cut, with what is TORN. */
public final class CutTest {
    public static void main(String[] args) {
        refuses();
        goesAtTheSector();
        stays();
        tornOctetsMakeNoSumRight();
        ownOctetsOfTheSumMayBeTorn();
        whatStoodBeforeIsNotTorn();
        aLaterCutMendsNothing();
        sectorOfZerosIsTorn();
        headIsTorn();
        regionIsTorn();
        Check.end();
    }

    private static void refuses() {
        AgedLog x = new AgedLog();
        Check.due("cut(-1, 0)", x.cut(-1, 0), -2);
        Check.due("cut(10001, 0)", x.cut(10001, 0), -2);
        Check.due("cut(0, -1)", x.cut(0, -1), -2);
        Check.due("cut(0, 64)", x.cut(0, 64), -2);
        Check.due("cut(10000, 63)", x.cut(10000, 63), 1);
        Check.due("cut(0, 0)", x.cut(0, 0), 1);
        Check.due("cut(1, 0)", x.cut(1, 0), 1);
        Check.due("cut(2, 64) changes nothing", x.cut(2, 64), -2);
        x.put(1);
        Check.due("sync()", x.sync(), -5);
        Check.due("cut(1, 0) when down", x.cut(1, 0), -3);
        Check.due("cut(-1, 0) when down", x.cut(-1, 0), -3);
    }

    private static void goesAtTheSector() {
        AgedLog x = new AgedLog();
        x.cut(4, 7);
        Check.put(x, 1, 100);
        Check.due("sync() of two", x.sync(), 2);
        Check.put(x, 2, 100);
        Check.due("sync() of three, from 126 on", x.sync(), -5);
        Check.due("told(8)", x.told(8), 3);
        Check.due("told(9)", x.told(9), 1);
        Check.due("disk(8, 126)", x.disk(8, 126), 1);
        Check.due("disk(8, 128 + 6)", x.disk(8, 134) != 0 || x.disk(8, 133) != 0 ? 1 : 0, 1);
        for (int i = 135; i < 256; i++) {
            Check.due("disk(8, " + i + ")", x.disk(8, i), 0);
        }
        Check.due("start()", x.start(), 1);
        Check.put(x, 2, 100);
        Check.due("sync(): it went once only", x.sync(), 3);
        oldOctetsStay();
    }

    private static void oldOctetsStay() {
        AgedLog x = new AgedLog();
        for (int i = 0; i < 64; i++) {
            x.poke(8, i, 200);
        }
        x.put(1);
        x.cut(1, 2);
        x.sync();
        Check.due("disk(8, 1)", x.disk(8, 1), 71);
        Check.due("disk(8, 2)", x.disk(8, 2), 200);
        Check.due("disk(8, 63)", x.disk(8, 63), 200);
    }

    private static void stays() {
        AgedLog x = new AgedLog();
        x.cut(1, 0);
        x.cut(0, 0);
        x.put(1);
        Check.due("sync() behind cut(0, 0)", x.sync(), 1);
        x.cut(1, 0);
        x.start();
        x.put(1);
        Check.due("sync() behind start()", x.sync(), 1);
        x.cut(1, 0);
        x.cut(2, 0);
        x.put(1);
        Check.due("sync(): the later cut counts", x.sync(), 1);
        x.put(1);
        Check.due("sync() then", x.sync(), -5);
    }

    /** Makes octets of segment 8 what they would be if key 5 had been put there alone. */
    private static void mend(AgedLog x) {
        AgedLog whole = new AgedLog();
        Check.put(whole, 5, 3);
        whole.sync();
        for (int i = 0; i < 64; i++) {
            x.poke(8, i, x.disk(8, i) ^ whole.disk(8, i));
        }
    }

    private static AgedLog cutInFirstRecord(int t) {
        AgedLog x = new AgedLog();
        Check.put(x, 5, 3);
        x.cut(1, t);
        Check.due("sync()", x.sync(), -5);
        return x;
    }

    private static void tornOctetsMakeNoSumRight() {
        for (int t = 10; t < 25; t++) {
            AgedLog x = cutInFirstRecord(t);
            mend(x);
            Check.due("start() with " + t + " octets", x.start(), 0);
        }
        for (int t = 29; t < 64; t++) {
            Check.due("start() with " + t + " octets", cutInFirstRecord(t).start(), 1);
        }
    }

    private static void ownOctetsOfTheSumMayBeTorn() {
        for (int t = 25; t < 29; t++) {
            AgedLog x = cutInFirstRecord(t);
            Check.due("start() with " + t + " octets", x.start(), 0);
            mend(x);
            Check.due("start() when the SUM is mended", x.start(), 1);
        }
    }

    private static void whatStoodBeforeIsNotTorn() {
        AgedLog x = new AgedLog();
        Check.put(x, 5, 3);
        x.sync();
        x.put(6);
        x.cut(1, 5);
        Check.due("sync()", x.sync(), -5);
        Check.due("start()", x.start(), 1);
        Check.due("size(5)", x.size(5), 3);
        Check.due("size(6)", x.size(6), -1);
        Check.forgeRecord(x, 8, 29, new int[] {1, 6, 0, 2, 0});
        Check.due("start(): what came is TORN", x.start(), 1);
        Check.forgeRecord(x, 8, 29, new int[] {1, 6, 24, 2, 0});
        Check.due("start(): to the SECTOR's end", x.start(), 1);
    }

    private static void aLaterCutMendsNothing() {
        AgedLog x = cutInFirstRecord(20);
        x.start();
        Check.put(x, 5, 3);
        x.cut(1, 60);
        Check.due("sync()", x.sync(), -5);
        Check.due("disk(8, 28)", x.disk(8, 28) != 0 ? 1 : 0, 1);
        Check.due("start(): they are TORN still", x.start(), 0);
        Check.put(x, 5, 3);
        Check.due("sync()", x.sync(), 1);
        Check.due("start(): written whole", x.start(), 1);
        x.put(6);
        x.cut(1, 50);
        x.sync();
        Check.due("start(): TORN from 50 on", x.start(), 2);
        x.put(7);
        x.cut(1, 46);
        x.sync();
        Check.forgeRecord(x, 8, 45, new int[] {1, 7, 0, 3, 0});
        Check.due("start(): TORN from 46 on", x.start(), 2);
    }

    private static void sectorOfZerosIsTorn() {
        AgedLog x = new AgedLog();
        Check.put(x, 1, 38);
        x.cut(1, 10);
        x.poke(8, 70, 9);
        x.poke(8, 80, 9);
        Check.due("sync()", x.sync(), -5);
        Check.due("disk(8, 70)", x.disk(8, 70), 9 - 9);
        Check.due("disk(8, 80)", x.disk(8, 80), 9);
        Check.due("disk(8, 0)", x.disk(8, 0), 0);
        Check.forgeHead(x, 8, 1);
        Check.forgeRecord(x, 8, 10, new int[] {1, 1, 38, 1, 0});
        Check.forgeRecord(x, 8, 64, new int[] {1, 2, 0, 2, 0});
        Check.due("start(): the second is TORN from its tenth octet on", x.start(), 1);
        AgedLog y = new AgedLog();
        Check.put(y, 1, 38);
        y.cut(1, 12);
        y.sync();
        Check.forgeHead(y, 8, 1);
        Check.forgeRecord(y, 8, 10, new int[] {1, 1, 38, 1, 0});
        Check.forgeRecord(y, 8, 64, new int[] {1, 2, 0, 2, 0});
        Check.due("start(): only its SUM's own are TORN", y.start(), 2);
    }

    private static void headIsTorn() {
        AgedLog x = new AgedLog();
        Check.putMany(x, 1, 8);
        x.sync();
        Check.put(x, 2, 60);
        x.cut(1, 3);
        Check.due("sync()", x.sync(), -5);
        Check.put(x, 2, 60);
        x.start();
        Check.due("told(2)", x.told(2), 8);
        Check.put(x, 2, 100);
        x.cut(2, 3);
        x.sync();
        Check.due("start()", x.start(), 8);
        Check.forgeHead(x, 9, 2);
        Check.forgeRecord(x, 9, 10, new int[] {1, 2, 4, 9, 0});
        Check.due("start(): nothing of it is TORN", x.start(), 9);
        AgedLog y = new AgedLog();
        Check.put(y, 1, 0);
        y.cut(1, 3);
        y.sync();
        mend(y);
        Check.due("start(): the HEAD is TORN", y.start(), 0);
    }

    private static void regionIsTorn() {
        AgedLog whole = new AgedLog();
        whole.put(1);
        whole.checkpoint();
        for (int t = 0; t < 64; t += 7) {
            AgedLog x = new AgedLog();
            x.put(1);
            x.sync();
            x.cut(2, t);
            Check.due("checkpoint()", x.checkpoint(), -5);
            for (int i = 0; i < 128; i++) {
                x.poke(0, i, x.disk(0, i) ^ whole.disk(0, i));
            }
            x.start();
            // 84 octets are summed: 20 of them in the second SECTOR.
            Check.due("told(7) with " + t + " octets", x.told(7), t < 20 ? 0 : 1);
        }
    }
}

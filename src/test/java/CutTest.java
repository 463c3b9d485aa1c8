/** Promise 11: cut, with what is TORN. */
public final class CutTest {
    public static void main(String[] args) {
        refuses();
        goesAtTheSector();
        goesAtTheThousandthSector();
        writesTheFirstOctets();
        keepsWhatCameBefore();
        stays();
        tornOctetsMakeNoSumRight();
        ownOctetsOfTheSumMayBeTorn();
        whatStoodBeforeIsNotTorn();
        tornFromTheCutOn();
        firstOctetOfASectorIsTorn();
        anotherSectorMendsNothing();
        aLaterCutMendsNothing();
        sectorOfZerosIsTorn();
        headIsTorn();
        tornRecordsAreNoneOfASegment();
        regionIsTorn();
        firstOctetOfARegionsSectorIsTorn();
        Check.end();
    }

    /** "-2 n is not 0 .. 10000, or t not 0 .. 63" */
    private static void refuses() {
        Run x = new Run();
        int[] wrongSectors = {-1, 10001, Integer.MIN_VALUE, Integer.MAX_VALUE};
        for (int n : wrongSectors) {
            Check.due("cut(" + n + ", 0)", x.cut(n, 0), -2);
            Check.due("cut(" + n + ", 64)", x.cut(n, 64), -2);
        }
        int[] wrongOctets = {-1, 64, Integer.MIN_VALUE, Integer.MAX_VALUE};
        for (int t : wrongOctets) {
            Check.due("cut(0, " + t + ")", x.cut(0, t), -2);
            Check.due("cut(1, " + t + ")", x.cut(1, t), -2);
        }
        Check.due("cut(10000, 63)", x.cut(10000, 63), 1);
        Check.due("cut(10000, 0)", x.cut(10000, 0), 1);
        x.put(1);
        Check.due("sync(): the 10000th is far", x.sync(), 1);
        Check.due("cut(0, 63)", x.cut(0, 63), 1);
        Check.due("cut(0, 0)", x.cut(0, 0), 1);
        Check.due("cut(1, 0)", x.cut(1, 0), 1);
        Check.due("cut(2, 64) changes nothing", x.cut(2, 64), -2);
        Check.due("cut(0, -1) changes nothing", x.cut(0, -1), -2);
        x.put(1);
        Check.due("sync()", x.sync(), -5);
        Check.due("cut(1, 0) when down", x.cut(1, 0), -3);
        Check.due("cut(0, 0) when down", x.cut(0, 0), -3);
        Check.due("cut(-1, 0) when down", x.cut(-1, 0), -3);
        Check.due("cut(0, 64) when down", x.cut(0, 64), -3);
    }

    /** SECTORS of all calls are counted: 21 for each checkpoint of 250 keys. */
    private static void goesAtTheThousandthSector() {
        Run x = new Run();
        for (int key = 0; key < 250; key++) {
            x.put(key);
        }
        x.sync();
        int before = x.told(8);
        x.cut(1000, 0);
        for (int number = 1; number <= 47; number++) {
            Check.due("checkpoint()", x.checkpoint(), number);
        }
        Check.due("checkpoint() with the 1000th in it", x.checkpoint(), -5);
        Check.due("told(8)", x.told(8) - before, 999);
        Check.due("start()", x.start(), 0);
        Check.due("told(7)", x.told(7), 47);
    }

    /** "of it the first t octets are new, the others stay as they were", with t from 0 to 63. */
    private static void writesTheFirstOctets() {
        Run whole = new Run();
        Check.put(whole, 5, 40);
        whole.sync();
        for (int t = 0; t < 64; t++) {
            Run x = new Run();
            for (int i = 0; i < 64; i++) {
                x.poke(8, i, whole.disk(8, i) ^ 170);
            }
            Check.put(x, 5, 40);
            x.cut(1, t);
            Check.due("sync()", x.sync(), -5);
            for (int i = 0; i < 64; i++) {
                int due = i < t ? whole.disk(8, i) : whole.disk(8, i) ^ 170;
                Check.due("disk(8, " + i + ") with " + t, x.disk(8, i), due);
            }
            Check.due("disk(8, 64)", x.disk(8, 64), 0);
        }
    }

    /** Of one SYNC the SECTORS before that at which power went are written, and count. */
    private static void keepsWhatCameBefore() {
        Run x = new Run();
        Check.put(x, 1, 30);
        Check.put(x, 2, 100);
        Check.put(x, 3, 0);
        x.cut(2, 30);
        Check.due("sync()", x.sync(), -5);
        Check.due("told(8)", x.told(8), 1);
        Check.due("start()", x.start(), 1);
        Check.due("size(1)", x.size(1), 30);
        Check.due("size(2): MEMORY is lost", x.size(2), -1);
        Check.due("size(3)", x.size(3), -1);
        Check.due("told(0)", x.told(0), 2);
        Check.due("told(3)", x.told(3), 56);
    }

    private static void goesAtTheSector() {
        Run x = new Run();
        x.cut(4, 7);
        Check.put(x, 1, 100);
        Check.due("sync() of two", x.sync(), 2);
        Check.put(x, 2, 100);
        Check.due("sync() of three, from 126 on", x.sync(), -5);
        Check.due("told(8)", x.told(8), 3);
        Check.due("told(9)", x.told(9), 1);
        Check.due("disk(8, 126)", x.disk(8, 126), 1);
        Check.due("disk(8, 128 + 6)", x.disk(8, 134) != 0 || x.disk(8, 133) != 0 ? 1 : 0, 1);
        for (int i = 135; i < 256; i++) {
            Check.due("disk(8, " + i + ")", x.disk(8, i), 0);
        }
        Check.due("start()", x.start(), 1);
        Check.put(x, 2, 100);
        Check.due("sync(): it went once only", x.sync(), 3);
        oldOctetsStay();
    }

    private static void oldOctetsStay() {
        Run x = new Run();
        for (int i = 0; i < 64; i++) {
            x.poke(8, i, 200);
        }
        x.put(1);
        x.cut(1, 2);
        x.sync();
        Check.due("disk(8, 1)", x.disk(8, 1), 71);
        Check.due("disk(8, 2)", x.disk(8, 2), 200);
        Check.due("disk(8, 63)", x.disk(8, 63), 200);
    }

    private static void stays() {
        Run x = new Run();
        x.cut(1, 0);
        x.cut(0, 0);
        x.put(1);
        Check.due("sync() behind cut(0, 0)", x.sync(), 1);
        x.cut(1, 0);
        x.start();
        x.put(1);
        Check.due("sync() behind start()", x.sync(), 1);
        x.cut(1, 0);
        x.cut(2, 0);
        x.put(1);
        Check.due("sync(): the later cut counts", x.sync(), 1);
        x.put(1);
        Check.due("sync() then", x.sync(), -5);
    }

    /** Makes octets of segment 8 what they would be if key 5 had been put there alone. */
    private static void mend(Run x) {
        Run whole = new Run();
        Check.put(whole, 5, 3);
        whole.sync();
        for (int i = 0; i < 64; i++) {
            x.poke(8, i, x.disk(8, i) ^ whole.disk(8, i));
        }
    }

    private static Run cutInFirstRecord(int t) {
        Run x = new Run();
        Check.put(x, 5, 3);
        x.cut(1, t);
        Check.due("sync()", x.sync(), -5);
        return x;
    }

    private static void tornOctetsMakeNoSumRight() {
        for (int t = 10; t < 25; t++) {
            Run x = cutInFirstRecord(t);
            mend(x);
            Check.due("start() with " + t + " octets", x.start(), 0);
        }
        for (int t = 29; t < 64; t++) {
            Check.due("start() with " + t + " octets", cutInFirstRecord(t).start(), 1);
        }
    }

    private static void ownOctetsOfTheSumMayBeTorn() {
        for (int t = 25; t < 29; t++) {
            Run x = cutInFirstRecord(t);
            Check.due("start() with " + t + " octets", x.start(), 0);
            mend(x);
            Check.due("start() when the SUM is mended", x.start(), 1);
        }
    }

    private static void whatStoodBeforeIsNotTorn() {
        Run x = new Run();
        Check.put(x, 5, 3);
        x.sync();
        x.put(6);
        x.cut(1, 5);
        Check.due("sync()", x.sync(), -5);
        Check.due("start()", x.start(), 1);
        Check.due("size(5)", x.size(5), 3);
        Check.due("size(6)", x.size(6), -1);
        Check.forgeRecord(x, 8, 29, new int[] {1, 6, 0, 2, 0});
        Check.due("start(): what came is TORN", x.start(), 1);
        Check.forgeRecord(x, 8, 29, new int[] {1, 6, 24, 2, 0});
        Check.due("start(): to the SECTOR's end", x.start(), 1);
    }

    /** The record that came is at 29 .. 44, its SUM at 41 .. 44: TORN are those from t on. */
    private static void tornFromTheCutOn() {
        for (int t = 28; t <= 45; t++) {
            Run x = new Run();
            Check.put(x, 5, 3);
            x.sync();
            x.put(6);
            x.cut(1, t);
            Check.due("sync()", x.sync(), -5);
            Check.due("start() with " + t, x.start(), t == 45 ? 2 : 1);
            Check.forgeRecord(x, 8, 29, new int[] {1, 6, 0, 2, 0});
            Check.due("start() when it is mended", x.start(), t > 40 ? 2 : 1);
            Check.due("size(5)", x.size(5), 3);
        }
    }

    /** A record at 45 .. 68, whose SUM is that of octets up to 64: the first of the second SECTOR. */
    private static void firstOctetOfASectorIsTorn() {
        for (int t = 0; t <= 1; t++) {
            Run x = new Run();
            Check.put(x, 1, 19);
            Check.put(x, 2, 8);
            x.cut(2, t);
            Check.due("sync()", x.sync(), -5);
            Check.forgeRecord(x, 8, 45, new int[] {1, 2, 8, 2, 0});
            Check.due("start() with " + t + " octets of the SECTOR", x.start(), 1 + t);
            Run y = new Run();
            Check.put(y, 1, 38);
            y.cut(1, t);
            Check.due("sync() with a SECTOR of 0s", y.sync(), -5);
            Check.forgeHead(y, 8, 1);
            Check.forgeRecord(y, 8, 10, new int[] {1, 1, 19, 1, 0});
            Check.forgeRecord(y, 8, 45, new int[] {1, 2, 8, 2, 0});
            Check.due("start() with " + t + " octets of the 0s", y.start(), 1 + t);
        }
    }

    /** "they are till that SECTOR is written whole": that one, and not the next one. */
    private static void anotherSectorMendsNothing() {
        Run x = new Run();
        Check.put(x, 5, 37);
        x.sync();
        Check.put(x, 6, 1);
        x.cut(1, 0);
        Check.due("sync() of 63 .. 79", x.sync(), -5);
        Check.due("start()", x.start(), 1);
        Check.forgeRecord(x, 8, 63, new int[] {1, 6, 1, 2, 0});
        Check.due("start(): octet 63 is TORN", x.start(), 1);
        Run y = new Run();
        Check.put(y, 5, 38);
        y.sync();
        Check.put(y, 6, 1);
        y.cut(1, 0);
        Check.due("sync() of 64 .. 80", y.sync(), -5);
        Check.forgeRecord(y, 8, 64, new int[] {1, 6, 1, 2, 0});
        Check.due("start(): octet 64 is TORN", y.start(), 1);
        Check.due("checkpoint(): SECTORS of a REGION", y.checkpoint(), 1);
        Check.due("start(): octet 64 is TORN still", y.start(), 0);
        Check.put(y, 6, 60);
        y.cut(2, 63);
        Check.due("sync() of 64 .. 139", y.sync(), -5);
        Check.due("disk(8, 128)", y.disk(8, 128), 53);
        Check.forgeRecord(y, 8, 64, new int[] {1, 6, 1, 2, 0});
        Check.due("start(): its SECTOR was written whole", y.start(), 1);
        Check.due("size(6)", y.size(6), 1);
    }

    private static void aLaterCutMendsNothing() {
        Run x = cutInFirstRecord(20);
        x.start();
        Check.put(x, 5, 3);
        x.cut(1, 60);
        Check.due("sync()", x.sync(), -5);
        Check.due("disk(8, 28)", x.disk(8, 28) != 0 ? 1 : 0, 1);
        Check.due("start(): they are TORN still", x.start(), 0);
        Check.put(x, 5, 3);
        Check.due("sync()", x.sync(), 1);
        Check.due("start(): written whole", x.start(), 1);
        x.put(6);
        x.cut(1, 60);
        x.sync();
        Check.due("start(): TORN from 60 on", x.start(), 2);
        Check.forgeRecord(x, 8, 45, new int[] {1, 7, 0, 3, 0});
        Check.due("start(): only the SUM's last octet is TORN", x.start(), 3);
        x.poke(8, 45, 1);
        x.start();
        x.put(7);
        x.cut(1, 46);
        x.sync();
        Check.forgeRecord(x, 8, 45, new int[] {1, 7, 0, 3, 0});
        Check.due("start(): TORN from 46 on", x.start(), 2);
    }

    private static void sectorOfZerosIsTorn() {
        Run x = new Run();
        Check.put(x, 1, 38);
        x.cut(1, 10);
        x.poke(8, 70, 9);
        x.poke(8, 80, 9);
        Check.due("sync()", x.sync(), -5);
        Check.due("disk(8, 70)", x.disk(8, 70), 9 - 9);
        Check.due("disk(8, 80)", x.disk(8, 80), 9);
        Check.due("disk(8, 0)", x.disk(8, 0), 0);
        Check.forgeHead(x, 8, 1);
        Check.forgeRecord(x, 8, 10, new int[] {1, 1, 38, 1, 0});
        Check.forgeRecord(x, 8, 64, new int[] {1, 2, 0, 2, 0});
        Check.due("start(): the second is TORN from its tenth octet on", x.start(), 1);
        Run y = new Run();
        Check.put(y, 1, 38);
        y.cut(1, 12);
        y.sync();
        Check.forgeHead(y, 8, 1);
        Check.forgeRecord(y, 8, 10, new int[] {1, 1, 38, 1, 0});
        Check.forgeRecord(y, 8, 64, new int[] {1, 2, 0, 2, 0});
        Check.due("start(): only its SUM's own are TORN", y.start(), 2);
    }

    private static void headIsTorn() {
        Run x = new Run();
        Check.putMany(x, 1, 8);
        x.sync();
        Check.put(x, 2, 60);
        x.cut(1, 3);
        Check.due("sync()", x.sync(), -5);
        Check.put(x, 2, 60);
        x.start();
        Check.due("told(2)", x.told(2), 8);
        Check.put(x, 2, 100);
        x.cut(2, 3);
        x.sync();
        Check.due("start()", x.start(), 8);
        Check.forgeHead(x, 9, 2);
        Check.forgeRecord(x, 9, 10, new int[] {1, 2, 4, 9, 0});
        Check.due("start(): nothing of it is TORN", x.start(), 9);
        Run y = new Run();
        Check.put(y, 1, 0);
        y.cut(1, 3);
        y.sync();
        mend(y);
        Check.due("start(): the HEAD is TORN", y.start(), 0);
    }

    private static void regionIsTorn() {
        Run whole = new Run();
        whole.put(1);
        whole.checkpoint();
        for (int t = 0; t < 64; t += 7) {
            Run x = new Run();
            x.put(1);
            x.sync();
            x.cut(2, t);
            Check.due("checkpoint()", x.checkpoint(), -5);
            for (int i = 0; i < 128; i++) {
                x.poke(0, i, x.disk(0, i) ^ whole.disk(0, i));
            }
            x.start();
            // 84 octets are summed: 20 of them in the second SECTOR.
            Check.due("told(7) with " + t + " octets", x.told(7), t < 20 ? 0 : 1);
        }
    }

    /** With 10 keys the SUM is that of octets up to 128, the first of the third SECTOR. */
    private static void firstOctetOfARegionsSectorIsTorn() {
        Run whole = new Run();
        for (int key = 0; key < 10; key++) {
            whole.put(key);
        }
        whole.checkpoint();
        for (int t = 0; t <= 1; t++) {
            Run x = new Run();
            for (int key = 0; key < 10; key++) {
                x.put(key);
            }
            x.sync();
            x.cut(3, t);
            Check.due("checkpoint()", x.checkpoint(), -5);
            for (int i = 128; i < 192; i++) {
                int mask = x.disk(0, i) ^ whole.disk(0, i);
                if (mask != 0) {
                    x.poke(0, i, mask);
                }
            }
            x.start();
            Check.due("told(7) with " + t + " octets", x.told(7), t);
        }
    }

    /** No TORN record is one of a checkpoint's, or of those that a USED segment has. */
    private static void tornRecordsAreNoneOfASegment() {
        for (int t = 40; t <= 41; t++) {
            Run x = new Run();
            Check.put(x, 5, 3);
            x.checkpoint();
            x.tick(7);
            x.put(6);
            x.cut(1, t);
            Check.due("sync()", x.sync(), -5);
            // The record of 29 .. 44 is mended, and 9 is the OPEN segment: 8 is USED only.
            Check.forgeRecord(x, 8, 29, new int[] {1, 6, 0, 2, 7});
            Check.setNumber(x, 0, 14, 1, 9);
            Check.setNumber(x, 0, 15, 2, 10);
            Check.setSum(x, 0, 0, 84);
            Check.due("start()", x.start(), 0);
            Check.due("segment(8, 0)", x.segment(8, 0), 1);
            Check.due("segment(8, 2) with " + t, x.segment(8, 2), t == 40 ? 0 : 7);
            // The only key of the checkpoint is 6 now, and its record there.
            Check.setNumber(x, 0, 23, 2, 6);
            Check.setNumber(x, 0, 26, 2, 29);
            Check.setSum(x, 0, 0, 84);
            x.start();
            Check.due("told(7)", x.told(7), 1);
            Check.due("size(6) with " + t, x.size(6), t == 40 ? -1 : 0);
        }
    }
}

/** Promises 3 to 6: put, remove, size and value. */
public final class PutRemoveTest {
    public static void main(String[] args) {
        laysRecordsOut();
        refusesKeys();
        opensSegments();
        refusesWithoutRoom();
        refusesWhenDown();
        readsMemoryAndNotTheDisk();
        Check.end();
    }

    private static void laysRecordsOut() {
        AgedLog x = new AgedLog();
        x.tick(0x10203);
        x.feed(0x61626364L, 4);
        Check.due("put(258)", x.put(258), 1);
        Check.due("remove(258)", x.remove(258), 2);
        Check.due("size(258)", x.size(258), -1);
        Check.due("put(258) with nothing", x.put(258), 3);
        Check.due("told(3)", x.told(3), 10 + 20 + 16 + 16);
        Check.due("told(6)", x.told(6), 62);
        x.sync();
        int[] head = {76, 71, 0, 0, 0, 1};
        int[] put = {1, 1, 2, 4, 0, 0, 0, 1, 0, 1, 2, 3, 97, 98, 99, 100};
        int[] removed = {2, 1, 2, 0, 0, 0, 0, 2, 0, 1, 2, 3};
        octetsAre(x, 0, head);
        octetsAre(x, 10, put);
        octetsAre(x, 30, removed);
        Check.due("the octets behind the records", Check.number(x, 8, 62, 2), 0);
    }

    private static void octetsAre(AgedLog x, int at, int[] octets) {
        for (int i = 0; i < octets.length; i++) {
            Check.due("disk(8, " + (at + i) + ")", x.disk(8, at + i), octets[i]);
        }
        int sum = Check.sum(x, 8, at, octets.length);
        Check.due("the SUM behind " + at, Check.number(x, 8, at + octets.length, 4), sum);
    }

    private static void refusesKeys() {
        AgedLog x = new AgedLog();
        int[] noKeys = {-1, 300, Integer.MIN_VALUE, Integer.MAX_VALUE};
        x.feed(1, 1);
        for (int key : noKeys) {
            Check.due("put(" + key + ")", x.put(key), -2);
            Check.due("remove(" + key + ")", x.remove(key), -1);
            Check.due("size(" + key + ")", x.size(key), -1);
            Check.due("value(" + key + ", 0)", x.value(key, 0), -1);
        }
        Check.due("put(0)", x.put(0), 1);
        Check.due("size(0): what was fed stays when put refuses", x.size(0), 1);
        Check.due("put(299)", x.put(299), 2);
        Check.due("remove(298)", x.remove(298), -1);
        Check.due("value(0, -1)", x.value(0, -1), -1);
        Check.due("value(0, 0)", x.value(0, 0), 1);
        Check.due("value(0, 1)", x.value(0, 1), -1);
        Check.due("value(299, 0)", x.value(299, 0), -1);
        Check.due("remove(0)", x.remove(0), 3);
        Check.due("value(0, 0) behind remove", x.value(0, 0), -1);
        Check.due("remove(0) again", x.remove(0), -1);
        Check.due("told(5)", x.told(5), 1);
    }

    private static void opensSegments() {
        AgedLog x = new AgedLog();
        Check.putMany(x, 1, 8);
        Check.due("told(3)", x.told(3), 938);
        Check.due("put that ends at 1024", Check.put(x, 2, 70), 9);
        Check.due("told(2)", x.told(2), 8);
        Check.due("told(3)", x.told(3), 1024);
        Check.due("remove in a new segment", x.remove(2), 10);
        Check.due("told(2)", x.told(2), 9);
        Check.due("told(3)", x.told(3), 26);
        Check.due("segment(9, 3)", x.segment(9, 3), 2);
        AgedLog y = new AgedLog();
        Check.putMany(y, 1, 8);
        Check.put(y, 2, 71);
        Check.due("told(2) when it would end at 1025", y.told(2), 9);
        Check.due("where(2, 1)", y.where(2, 1), 10);
    }

    private static void refusesWithoutRoom() {
        AgedLog x = new AgedLog();
        Check.putMany(x, 7, 54 * 8);
        Check.due("told(4)", x.told(4), 2);
        Check.due("told(2)", x.told(2), 61);
        Check.due("put without room", Check.put(x, 7, 100), -4);
        Check.due("put(300) without room", x.put(300), -2);
        Check.due("feed: what was fed stays", x.feed(0, 1), -4);
        Check.due("told(0)", x.told(0), 433);
        Check.due("put that fits", Check.put(x, 8, 55), 433);
        Check.due("told(3)", x.told(3), 1009);
        Check.due("remove without room", x.remove(8), -4);
        Check.due("size(8)", x.size(8), 55);
        Check.due("remove(9) without room", x.remove(9), -1);
        Check.due("clean(8)", x.clean(8), 8);
        Check.due("put while they are SPENT", Check.put(x, 7, 100), -4);
        Check.due("checkpoint()", x.checkpoint(), 1);
        Check.due("put when they are FREE", Check.put(x, 7, 100), 434);
        Check.due("where(7, 0)", x.where(7, 0), 8);
        AgedLog y = new AgedLog();
        Check.putMany(y, 7, 53 * 8);
        Check.due("told(4)", y.told(4), 3);
        Check.due("put when three are FREE", Check.put(y, 7, 100), 425);
    }

    private static void refusesWhenDown() {
        AgedLog x = new AgedLog();
        x.put(1);
        x.cut(1, 0);
        x.sync();
        Check.due("put(1) when down", x.put(1), -3);
        Check.due("put(300) when down", x.put(300), -3);
        Check.due("remove(1) when down", x.remove(1), -3);
        Check.due("size(1) when down", x.size(1), -3);
        Check.due("value(1, 0) when down", x.value(1, 0), -3);
        Check.due("value(300, 0) when down", x.value(300, 0), -3);
    }

    private static void readsMemoryAndNotTheDisk() {
        AgedLog x = new AgedLog();
        Check.put(x, 1, 3);
        x.sync();
        x.poke(8, 22, 255);
        x.poke(8, 13, 255);
        Check.due("size(1)", x.size(1), 3);
        Check.due("value(1, 0)", x.value(1, 0), 1);
        x.put(2);
        x.sync();
        Check.due("disk(8, 22) written whole again", x.disk(8, 22), 1);
    }
}

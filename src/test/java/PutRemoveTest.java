/** Promises 3 to 6: put, remove, size and value; and how records come to the log. */
public final class PutRemoveTest {
    private static final int[] NO_KEYS = {-1, 300, 301, 65536, Integer.MIN_VALUE, Integer.MAX_VALUE};

    public static void main(String[] args) {
        laysRecordsOut();
        laysTheLongestRecordOut();
        writesTheHighestOctetFirst();
        putTakesKeysUpTo299();
        removeWantsAValue();
        sizeWantsAValue();
        valueWantsAnOctet();
        putEmptiesTheHand();
        removeLeavesTheHand();
        firstRecordOpensTheFirstSegment();
        putEndsAtTheSegmentsEnd();
        removeEndsAtTheSegmentsEnd();
        opensTheLeastFreeSegment();
        putWantsThreeFreeOnes();
        removeWantsThreeFreeOnes();
        whatFitsWantsNoFreeOne();
        roomIsForTheValueAtHand();
        spentOnesAreNotFree();
        refusesInOrder();
        readsMemoryAndNotTheDisk();
        Check.end();
    }

    private static void octetsAre(Run x, int at, int[] octets) {
        for (int i = 0; i < octets.length; i++) {
            Check.due("disk(8, " + (at + i) + ")", x.disk(8, at + i), octets[i]);
        }
        int sum = Check.sum(x, 8, at, octets.length);
        Check.due("the SUM behind " + at, Check.number(x, 8, at + octets.length, 4), sum);
    }

    private static void laysRecordsOut() {
        Run x = new Run();
        x.tick(0x10203);
        x.feed(0x61626364L, 4);
        Check.due("put(258)", x.put(258), 1);
        Check.due("remove(258)", x.remove(258), 2);
        Check.due("size(258)", x.size(258), -1);
        Check.due("put(258) with nothing", x.put(258), 3);
        Check.due("told(3)", x.told(3), 10 + 20 + 16 + 16);
        Check.due("told(6)", x.told(6), 62);
        x.sync();
        octetsAre(x, 0, new int[] {76, 71, 0, 0, 0, 1});
        octetsAre(x, 10, new int[] {1, 1, 2, 4, 0, 0, 0, 1, 0, 1, 2, 3, 97, 98, 99, 100});
        octetsAre(x, 30, new int[] {2, 1, 2, 0, 0, 0, 0, 2, 0, 1, 2, 3});
        octetsAre(x, 46, new int[] {1, 1, 2, 0, 0, 0, 0, 3, 0, 1, 2, 3});
        Check.due("the octets behind the records", Check.number(x, 8, 62, 2), 0);
        // Worked out apart from any program here, for the octets 76, 71, 0, 0, 0, 1.
        Check.due("the SUM of the first HEAD", Check.number(x, 8, 6, 4), 0xDDE9F917);
    }

    /** "A RECORD has 16 octets and its value's n", and VALUES have 100 at most. */
    private static void laysTheLongestRecordOut() {
        Run x = new Run();
        Check.put(x, 299, 100);
        Check.due("told(3)", x.told(3), 126);
        x.sync();
        Check.due("its n", x.disk(8, 13), 100);
        Check.due("its last octet", x.disk(8, 121), 100);
        Check.due("its SUM", Check.number(x, 8, 122, 4), Check.sum(x, 8, 10, 112));
        x.feed(-1L, 8);
        x.put(0);
        x.sync();
        Check.due("the SUM over octets of 255", Check.number(x, 8, 146, 4), Check.sum(x, 8, 126, 20));
    }

    /** "Numbers on it stand with their highest octet first": SEQUENCE 256 and 257, TIME 2^24 and 1. */
    private static void writesTheHighestOctetFirst() {
        Run x = new Run();
        for (int i = 0; i < 255; i++) {
            x.put(1);
        }
        for (int i = 0; i < 167; i++) {
            x.tick(100000);
        }
        Check.due("tick(77217)", x.tick(77217), 16777217);
        Check.due("put(255)", x.put(255), 256);
        Check.due("put(256)", x.put(256), 257);
        x.sync();
        int at = x.where(255, 1);
        int segment = x.where(255, 0);
        int[] octets = {1, 0, 255, 0, 0, 0, 1, 0, 1, 0, 0, 1};
        int[] next = {1, 1, 0, 0, 0, 0, 1, 1, 1, 0, 0, 1};
        for (int i = 0; i < octets.length; i++) {
            Check.due("octet " + i + " of SEQUENCE 256", x.disk(segment, at + i), octets[i]);
            Check.due("octet " + i + " of SEQUENCE 257", x.disk(segment, at + 16 + i), next[i]);
        }
    }

    /** "-2 the key is not 0 .. 299" */
    private static void putTakesKeysUpTo299() {
        Run x = new Run();
        x.feed(1, 1);
        for (int key : NO_KEYS) {
            Check.due("put(" + key + ")", x.put(key), -2);
        }
        Check.due("told(5)", x.told(5), 0);
        Check.due("put(0)", x.put(0), 1);
        Check.due("size(0): what was fed stays when put refuses", x.size(0), 1);
        Check.due("put(299)", x.put(299), 2);
        Check.due("told(5)", x.told(5), 2);
    }

    /** remove: "-1 it has no value" */
    private static void removeWantsAValue() {
        Run x = new Run();
        for (int key : NO_KEYS) {
            Check.due("remove(" + key + ")", x.remove(key), -1);
        }
        Check.due("remove(0) of an empty store", x.remove(0), -1);
        Check.due("told(2): nothing was opened", x.told(2), 0);
        x.put(0);
        x.put(299);
        Check.due("remove(1)", x.remove(1), -1);
        Check.due("remove(298)", x.remove(298), -1);
        Check.due("remove(299)", x.remove(299), 3);
        Check.due("remove(299) again", x.remove(299), -1);
        Check.due("remove(0)", x.remove(0), 4);
        Check.due("told(5)", x.told(5), 0);
        Check.due("put(299) anew", x.put(299), 5);
        Check.due("remove(299) anew", x.remove(299), 6);
    }

    /** size: "-1 it has none"; VALUES are rows of 0 .. 100 octets. */
    private static void sizeWantsAValue() {
        Run x = new Run();
        for (int key : NO_KEYS) {
            Check.due("size(" + key + ")", x.size(key), -1);
        }
        Check.due("size(0)", x.size(0), -1);
        x.put(0);
        Check.put(x, 299, 100);
        Check.due("size(0) of an empty value", x.size(0), 0);
        Check.due("size(299) of the longest", x.size(299), 100);
        Check.due("size(1)", x.size(1), -1);
        Check.due("size(298)", x.size(298), -1);
        x.remove(0);
        Check.due("size(0) behind remove", x.size(0), -1);
        Check.put(x, 299, 7);
        Check.due("size(299): the latest counts", x.size(299), 7);
    }

    /** value: "-1 there is none" */
    private static void valueWantsAnOctet() {
        Run x = new Run();
        for (int key : NO_KEYS) {
            Check.due("value(" + key + ", 0)", x.value(key, 0), -1);
        }
        Check.due("value(0, 0) without a value", x.value(0, 0), -1);
        x.put(0);
        Check.due("value(0, 0) of an empty one", x.value(0, 0), -1);
        x.feed(0xFF80L, 2);
        x.put(1);
        Check.due("value(1, -1)", x.value(1, -1), -1);
        Check.due("value(1, 0)", x.value(1, 0), 255);
        Check.due("value(1, 1)", x.value(1, 1), 128);
        Check.due("value(1, 2)", x.value(1, 2), -1);
        Check.due("value(1, least)", x.value(1, Integer.MIN_VALUE), -1);
        Check.due("value(1, greatest)", x.value(1, Integer.MAX_VALUE), -1);
        Check.put(x, 299, 100);
        Check.due("value(299, 0)", x.value(299, 0), 1);
        Check.due("value(299, 99)", x.value(299, 99), 100);
        Check.due("value(299, 100)", x.value(299, 100), -1);
        x.remove(1);
        Check.due("value(1, 0) behind remove", x.value(1, 0), -1);
    }

    /** "A key is PUT with the value at hand (empty then)" */
    private static void putEmptiesTheHand() {
        Run x = new Run();
        Check.put(x, 1, 100);
        Check.due("feed behind put", x.feed(5, 1), 1);
        Check.due("put(1)", x.put(1), 2);
        Check.due("put(2) with nothing", x.put(2), 3);
        Check.due("size(1)", x.size(1), 1);
        Check.due("size(2)", x.size(2), 0);
    }

    private static void removeLeavesTheHand() {
        Run x = new Run();
        x.put(1);
        x.feed(5, 3);
        x.remove(1);
        Check.due("told(3): REMOVED has no value", x.told(3), 42);
        Check.due("feed behind remove", x.feed(5, 1), 4);
    }

    /** "At first no segment is OPEN (the first record opens one)", "1 at first" */
    private static void firstRecordOpensTheFirstSegment() {
        Run x = new Run();
        Check.due("told(2)", x.told(2), 0);
        Check.due("told(3)", x.told(3), 0);
        Check.due("put(7)", x.put(7), 1);
        Check.due("told(2)", x.told(2), 8);
        Check.due("where(7, 1): records follow from octet 10 on", x.where(7, 1), 10);
        Check.due("told(3)", x.told(3), 26);
        Check.due("told(6): the HEAD came too", x.told(6), 26);
        Check.due("segment(8, 3): ORDER is 1 at first", x.segment(8, 3), 1);
    }

    /** "A record that does not end at 1024 or before goes to a new OPEN one" */
    private static void putEndsAtTheSegmentsEnd() {
        Run x = new Run();
        Check.fillTo(x, 1, 938);
        int next = x.told(0);
        Check.due("put that ends at 1024", Check.put(x, 2, 70), next);
        Check.due("told(2)", x.told(2), 8);
        Check.due("told(3)", x.told(3), 1024);
        Check.due("where(2, 1)", x.where(2, 1), 938);
        Check.due("put in a new segment", x.put(3), next + 1);
        Check.due("told(2)", x.told(2), 9);
        Check.due("told(3)", x.told(3), 26);
        Check.due("segment(8, 0)", x.segment(8, 0), 1);
        Check.due("segment(9, 0)", x.segment(9, 0), 2);
        Check.due("segment(9, 3): 1 more than the one before", x.segment(9, 3), 2);
        Run y = new Run();
        Check.fillTo(y, 1, 938);
        Check.put(y, 2, 71);
        Check.due("told(2) when it would end at 1025", y.told(2), 9);
        Check.due("where(2, 1)", y.where(2, 1), 10);
        Check.due("told(6): the two HEADS and all records", y.told(6), 938 + 10 + 87);
        Run z = new Run();
        Check.fillTo(z, 1, 1008);
        z.put(2);
        Check.due("where(2, 1): the last place of a record", z.where(2, 1), 1008);
        Check.due("told(3)", z.told(3), 1024);
    }

    private static void removeEndsAtTheSegmentsEnd() {
        Run x = new Run();
        Check.fillTo(x, 1, 1008);
        x.remove(1);
        Check.due("told(2) when REMOVED ends at 1024", x.told(2), 8);
        Check.due("told(3)", x.told(3), 1024);
        Run y = new Run();
        Check.fillTo(y, 1, 1009);
        y.remove(1);
        Check.due("told(2) when it would end at 1025", y.told(2), 9);
        Check.due("told(3)", y.told(3), 26);
    }

    /** "the FREE segment with the least number is USED" */
    private static void opensTheLeastFreeSegment() {
        Run x = new Run();
        for (int segment = 8; segment <= 10; segment++) {
            Check.fillTo(x, 1, 1018);
            Check.due("told(2)", x.told(2), segment);
            x.put(1);
        }
        Check.due("clean(2)", x.clean(2), 2);
        x.checkpoint();
        Check.due("segment(8, 0)", x.segment(8, 0), 0);
        Check.due("segment(9, 0)", x.segment(9, 0), 0);
        Check.fillTo(x, 1, 1018);
        x.put(1);
        Check.due("told(2): 8 before 9 and 12", x.told(2), 8);
        Check.due("segment(8, 3)", x.segment(8, 3), 5);
        Check.due("segment(8, 1): nothing of before is in it", x.segment(8, 1), 16);
        Check.fillTo(x, 1, 1018);
        x.put(1);
        Check.due("told(2): 9 before 12", x.told(2), 9);
        Check.due("segment(9, 3)", x.segment(9, 3), 6);
    }

    /** "If it would open a segment, and no more than two are FREE, there is no room." */
    private static void putWantsThreeFreeOnes() {
        Run x = new Run();
        Check.crowd(x, 3);
        Check.fillTo(x, 200, 1018);
        int next = x.told(0);
        Check.due("put that opens the third last", x.put(200), next);
        Check.due("told(4)", x.told(4), 2);
        Run y = new Run();
        Check.crowd(y, 2);
        Check.fillTo(y, 200, 1018);
        next = y.told(0);
        y.feed(9, 3);
        Check.due("put that would open the second last", y.put(201), -4);
        Check.due("told(4)", y.told(4), 2);
        Check.due("told(0)", y.told(0), next);
        Check.due("told(3)", y.told(3), 1018);
        Check.due("size(201)", y.size(201), -1);
        Check.due("feed: what was fed stays", y.feed(0, 1), 4);
        Run z = new Run();
        Check.crowd(z, 1);
        Check.fillTo(z, 200, 1018);
        Check.due("put that would open the last", z.put(201), -4);
    }

    private static void removeWantsThreeFreeOnes() {
        Run x = new Run();
        Check.crowd(x, 3);
        Check.fillTo(x, 200, 1009);
        int next = x.told(0);
        Check.due("remove that opens the third last", x.remove(200), next);
        Check.due("told(4)", x.told(4), 2);
        Run y = new Run();
        Check.crowd(y, 2);
        Check.fillTo(y, 200, 1009);
        Check.due("remove that would open the second last", y.remove(200), -4);
        Check.due("size(200)", y.size(200), 0);
        Check.due("told(4)", y.told(4), 2);
    }

    /** There is room, though two are FREE, for what does not open a segment. */
    private static void whatFitsWantsNoFreeOne() {
        Run x = new Run();
        Check.crowd(x, 0);
        Check.fillTo(x, 200, 992);
        int next = x.told(0);
        Check.due("put that ends at 1008", x.put(201), next);
        Check.hold(x, 100);
        Check.due("remove that ends at 1024, whatever is at hand", x.remove(201), next + 1);
        Check.due("told(3)", x.told(3), 1024);
        Check.due("remove then", x.remove(200), -4);
        Check.due("put then", x.put(200), -4);
    }

    /** Whether a record opens a segment hangs on the value at hand. */
    private static void roomIsForTheValueAtHand() {
        Run x = new Run();
        Check.crowd(x, 2);
        Check.fillTo(x, 200, 1000);
        int next = x.told(0);
        Check.due("put that would end at 1025", Check.put(x, 201, 9), -4);
        Check.due("put(300) then", x.put(300), -2);
        Check.due("put that ends at 1024", Check.put(x, 201, 8), next);
        Check.due("where(201, 1)", x.where(201, 1), 1000);
        Check.due("told(4)", x.told(4), 2);
    }

    private static void spentOnesAreNotFree() {
        Run x = new Run();
        Check.crowd(x, 2);
        Check.fillTo(x, 200, 1018);
        Check.due("segment(8, 0)", x.segment(8, 0), 3);
        Check.due("put while they are SPENT", x.put(200), -4);
        x.sync();
        Check.due("put behind sync()", x.put(200), -4);
        Check.due("checkpoint()", x.checkpoint(), 1);
        Check.due("told(4)", x.told(4), 54);
        int next = x.told(0);
        Check.due("put when they are FREE", x.put(200), next);
        Check.due("where(200, 0)", x.where(200, 0), 8);
    }

    private static void refusesInOrder() {
        Run x = new Run();
        Check.crowd(x, 2);
        Check.fillTo(x, 200, 1018);
        Check.due("put(300) without room", x.put(300), -2);
        Check.due("put(-1) without room", x.put(-1), -2);
        Check.due("remove(201) without room", x.remove(201), -1);
        Check.due("remove(300) without room", x.remove(300), -1);
        Check.due("remove(200) without room", x.remove(200), -4);
        x.cut(1, 0);
        Check.due("sync()", x.sync(), -5);
        Check.due("put(200) when down", x.put(200), -3);
        Check.due("put(300) when down", x.put(300), -3);
        Check.due("remove(200) when down", x.remove(200), -3);
        Check.due("remove(201) when down", x.remove(201), -3);
        Check.due("size(0) when down", x.size(0), -3);
        Check.due("size(300) when down", x.size(300), -3);
        Check.due("value(0, 0) when down", x.value(0, 0), -3);
        Check.due("value(300, 0) when down", x.value(300, 0), -3);
    }

    private static void readsMemoryAndNotTheDisk() {
        Run x = new Run();
        Check.put(x, 1, 3);
        x.sync();
        x.poke(8, 22, 255);
        x.poke(8, 13, 255);
        Check.due("size(1)", x.size(1), 3);
        Check.due("value(1, 0)", x.value(1, 0), 1);
        x.put(2);
        x.sync();
        Check.due("disk(8, 22) written whole again", x.disk(8, 22), 1);
    }
}

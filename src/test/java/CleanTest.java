/** Promises 9 and 10: clean and tick. */
public final class CleanTest {
    public static void main(String[] args) {
        refuses();
        takesThatWithTheLeastLife();
        takesTheOldOne();
        countsAllRecordsForTheAge();
        takesTheLeastNumberOfTheSame();
        comparesExactly();
        takesSeveral();
        sortsByTimeAndSequence();
        givesRecordsAgain();
        refusesWithoutRoom();
        wantsNoneForWhatFits();
        ticks();
        Check.end();
    }

    private static void refuses() {
        AgedLog x = new AgedLog();
        Check.due("clean(0)", x.clean(0), -2);
        Check.due("clean(9)", x.clean(9), -2);
        Check.due("clean(-1)", x.clean(-1), -2);
        Check.due("clean(1) of nothing", x.clean(1), 0);
        x.put(1);
        Check.due("clean(8) with an OPEN one only", x.clean(8), 0);
        Check.due("segment(8, 0)", x.segment(8, 0), 2);
        x.cut(1, 0);
        x.sync();
        Check.due("clean(1) when down", x.clean(1), -3);
        Check.due("clean(0) when down", x.clean(0), -3);
    }

    /** Fills a segment with records of 100 octets: those keys, and then key 0. */
    private static void fill(AgedLog x, int... keys) {
        for (int key : keys) {
            Check.put(x, key, 100);
        }
        Check.putMany(x, 0, 8 - keys.length);
    }

    private static void isSpent(String what, AgedLog x, int... segments) {
        int[] state = new int[64];
        for (int segment : segments) {
            state[segment] = 3;
        }
        for (int segment = 8; segment < 64; segment++) {
            boolean spent = x.segment(segment, 0) == 3;
            Check.due(what + ", segment(" + segment + ", 0) is SPENT", spent ? 3 : 0, state[segment]);
        }
    }

    private static void takesThatWithTheLeastLife() {
        AgedLog x = new AgedLog();
        fill(x, 1, 2, 3);
        fill(x, 4);
        fill(x, 5, 6);
        fill(x);
        Check.due("clean(1)", x.clean(1), 1);
        isSpent("least life", x, 9);
        Check.due("told(2): the LIVE record wanted a new one", x.told(2), 12);
        Check.due("clean(1)", x.clean(1), 1);
        isSpent("then 11, where key 0 lives alone", x, 9, 11);
    }

    private static void takesTheOldOne() {
        AgedLog x = new AgedLog();
        fill(x, 1, 2);
        x.tick(5);
        fill(x);
        fill(x);
        Check.due("clean(1)", x.clean(1), 1);
        isSpent("792 * 6 / 1256 is above 1", x, 8);
    }

    private static void countsAllRecordsForTheAge() {
        AgedLog x = new AgedLog();
        // 8 ends with a record of a later TIME that does not live: its age is small all the same.
        Check.putMany(x, 0, 7);
        x.tick(50);
        Check.put(x, 0, 100);
        fill(x, 1);
        fill(x);
        Check.due("segment(8, 2)", x.segment(8, 2), 50);
        Check.due("segment(8, 1)", x.segment(8, 1), 0);
        Check.due("clean(1)", x.clean(1), 1);
        isSpent("the empty one of the same age", x, 8);
        AgedLog y = new AgedLog();
        fill(y, 1, 2, 3, 4);
        y.tick(50);
        Check.putMany(y, 0, 7);
        Check.put(y, 0, 100);
        y.put(5);
        fill(y);
        Check.due("clean(1)", y.clean(1), 1);
        isSpent("560 * 51 / 1488 is above 1", y, 8);
    }

    private static void takesTheLeastNumberOfTheSame() {
        AgedLog x = new AgedLog();
        fill(x, 1);
        fill(x, 2);
        fill(x, 3);
        fill(x);
        Check.due("clean(1)", x.clean(1), 1);
        isSpent("the same", x, 8);
    }

    private static void comparesExactly() {
        AgedLog x = new AgedLog();
        fill(x, 1, 2);
        fill(x, 3);
        fill(x);
        Check.due("clean(1)", x.clean(1), 1);
        isSpent("792 / 1256 is less than 908 / 1140, and both are below 1", x, 9);
    }

    private static void takesSeveral() {
        AgedLog x = new AgedLog();
        fill(x, 1);
        fill(x, 2, 3);
        fill(x);
        fill(x);
        Check.due("clean(8)", x.clean(8), 3);
        isSpent("all that there are", x, 8, 9, 10);
        Check.due("told(4)", x.told(4), 56 - 5);
        Check.due("segment(8, 1)", x.segment(8, 1), 0);
        Check.due("segment(8, 2)", x.segment(8, 2), 0);
        Check.due("segment(8, 3)", x.segment(8, 3), 0);
        Check.due("clean(8) again: 11 is not OPEN any more", x.clean(8), 1);
    }

    private static void sortsByTimeAndSequence() {
        AgedLog x = new AgedLog();
        fill(x, 1, 4);
        x.tick(10);
        Check.put(x, 2, 100);
        Check.put(x, 3, 100);
        x.clean(1);
        Check.due("where(1, 2)", x.where(1, 2), 11);
        Check.due("where(4, 2)", x.where(4, 2), 12);
        Check.due("where(0, 2)", x.where(0, 2), 13);
        Check.due("where(1, 3)", x.where(1, 3), 0);
        Check.putMany(x, 0, 5);
        Check.due("told(2)", x.told(2), 10);
        Check.due("clean(1)", x.clean(1), 1);
        int next = 13 + 5;
        int[] keys = {1, 4, 2, 3};
        for (int i = 0; i < keys.length; i++) {
            int key = keys[i];
            Check.due("where(" + key + ", 2)", x.where(key, 2), next + 1 + i);
            Check.due("where(" + key + ", 1)", x.where(key, 1), 242 + 116 * i);
            Check.due("where(" + key + ", 3)", x.where(key, 3), i < 2 ? 0 : 10);
            Check.due("where(" + key + ", 0)", x.where(key, 0), 10);
        }
        Check.due("segment(10, 2)", x.segment(10, 2), 10);
    }

    private static void givesRecordsAgain() {
        AgedLog x = new AgedLog();
        x.tick(3);
        fill(x, 1);
        Check.put(x, 0, 100);
        x.tick(4);
        x.feed(0x5566, 2);
        Check.due("clean(1)", x.clean(1), 1);
        Check.due("where(1, 0)", x.where(1, 0), 9);
        Check.due("where(1, 1)", x.where(1, 1), 126);
        Check.due("where(1, 2)", x.where(1, 2), 10);
        Check.due("where(1, 3)", x.where(1, 3), 3);
        Check.due("size(1)", x.size(1), 100);
        Check.due("value(1, 99)", x.value(1, 99), 100);
        Check.due("told(0)", x.told(0), 11);
        x.sync();
        Check.due("its SUM", Check.number(x, 9, 126 + 112, 4), Check.sum(x, 9, 126, 112));
        Check.due("start()", x.start(), 10);
        Check.due("where(1, 2)", x.where(1, 2), 10);
        Check.due("segment(8, 0): it was not freed", x.segment(8, 0), 1);
        Check.due("feed: the value at hand stayed", x.feed(0, 1), 3);
    }

    private static void refusesWithoutRoom() {
        AgedLog x = new AgedLog();
        for (int key = 0; key < 300; key++) {
            Check.put(x, key, 100);
        }
        Check.putMany(x, 0, 54 * 8 - 300);
        Check.due("told(4)", x.told(4), 2);
        Check.due("clean(8): 46 .. 53 are empty", x.clean(8), 8);
        isSpent("8", x, 46, 47, 48, 49, 50, 51, 52, 53);
        Check.due("clean(8): 54 .. 60, and 45 with four", x.clean(8), 8);
        isSpent("16", x, 45, 46, 47, 48, 49, 50, 51, 52, 53, 54, 55, 56, 57, 58, 59, 60);
        Check.due("told(2): one that put() could not open", x.told(2), 62);
        Check.due("told(4)", x.told(4), 1);
        int next = x.told(0);
        Check.due("clean(8) of what lives", x.clean(8), -4);
        Check.due("told(0)", x.told(0), next);
        Check.due("told(2)", x.told(2), 62);
        Check.due("told(3)", x.told(3), 10 + 4 * 116);
        Check.due("where(8, 0)", x.where(8, 0), 9);
        isSpent("still 16", x, 45, 46, 47, 48, 49, 50, 51, 52, 53, 54, 55, 56, 57, 58, 59, 60);
        Check.due("clean(2): eight records want one segment", x.clean(2), 2);
        Check.due("told(4)", x.told(4), 0);
        Check.due("told(2)", x.told(2), 63);
        Check.due("checkpoint()", x.checkpoint(), 1);
        Check.due("told(4)", x.told(4), 18);
    }

    /** No segment is FREE, and 86 octets are left in the OPEN one. */
    private static void wantsNoneForWhatFits() {
        for (int length = 70; length <= 71; length++) {
            AgedLog x = new AgedLog();
            Check.put(x, 1, length);
            Check.putMany(x, 0, length == 70 ? 16 : 15);
            x.checkpoint();
            for (int segment = 10; segment < 64; segment++) {
                Check.setNumber(x, 0, 33 + segment - 8, 1, 1);
            }
            Check.setSum(x, 0, 0, 89);
            x.start();
            Check.due("told(4)", x.told(4), 0);
            Check.due("told(3)", x.told(3), 938);
            for (int i = 0; i < 9; i++) {
                Check.due("clean(6) of empty ones", x.clean(6), 6);
            }
            Check.due("clean(1) of " + length + " octets", x.clean(1), length == 70 ? 1 : -4);
            Check.due("where(1, 0)", x.where(1, 0), length == 70 ? 9 : 8);
            Check.due("told(3)", x.told(3), length == 70 ? 1024 : 938);
        }
    }

    private static void ticks() {
        AgedLog x = new AgedLog();
        Check.due("tick(0)", x.tick(0), 0);
        Check.due("tick(5)", x.tick(5), 5);
        Check.due("tick(100000)", x.tick(100000), 100005);
        Check.due("tick(100001)", x.tick(100001), -2);
        Check.due("tick(-1)", x.tick(-1), -2);
        Check.due("told(1)", x.told(1), 100005);
        x.put(1);
        Check.due("where(1, 3)", x.where(1, 3), 100005);
        x.cut(1, 0);
        x.sync();
        Check.due("tick(0) when down", x.tick(0), -3);
        Check.due("tick(-1) when down", x.tick(-1), -3);
        x.start();
        Check.due("tick(0) behind start()", x.tick(0), 0);
    }
}

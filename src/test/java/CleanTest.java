/** Promises 9 and 10: clean and tick. */
public final class CleanTest {
    public static void main(String[] args) {
        refuses();
        takesThatWithTheLeastLife();
        takesTheOldOne();
        countsAllRecordsForTheAge();
        takesTheLeastNumberOfTheSame();
        comparesExactly();
        takesSeveral();
        sortsByTimeAndSequence();
        sortsTheSameTimeBySequence();
        sortsOverSegments();
        givesRecordsAgain();
        takesEightAtMost();
        isOldWithoutARecord();
        countsRemovedRecordsForTheAge();
        weighsLifeAgainstAge();
        weighsExactly();
        isOldAtTheLastClock();
        forgetsTheTimesOfBefore();
        spendsAllOrNone();
        takesTheLeastNumberOfTheSameWorth();
        weighsTheFirstAndTheLastKey();
        neverTakesTheOpenOne();
        bringsNothingWhereNothingLives();
        takesTheLastFreeOnes();
        wantsAsManyAsAreFree();
        wantsNoneForWhatFits();
        wantsOneWhenNoneIsOpen();
        ticks();
        Check.end();
    }

    private static void refuses() {
        Run x = new Run();
        int[] wrong = {0, 9, -1, Integer.MIN_VALUE, Integer.MAX_VALUE};
        for (int n : wrong) {
            Check.due("clean(" + n + ")", x.clean(n), -2);
        }
        Check.due("clean(1) of nothing", x.clean(1), 0);
        x.put(1);
        Check.due("clean(8) with an OPEN one only", x.clean(8), 0);
        Check.due("segment(8, 0)", x.segment(8, 0), 2);
        x.cut(1, 0);
        x.sync();
        Check.due("clean(1) when down", x.clean(1), -3);
        Check.due("clean(0) when down", x.clean(0), -3);
    }

    /** Fills a segment with records of 100 octets: those keys, and then key 0. */
    private static void fill(Run x, int... keys) {
        for (int key : keys) {
            Check.put(x, key, 100);
        }
        Check.putMany(x, 0, 8 - keys.length);
    }

    private static void isSpent(String what, Run x, int... segments) {
        int[] state = new int[64];
        for (int segment : segments) {
            state[segment] = 3;
        }
        for (int segment = 8; segment < 64; segment++) {
            boolean spent = x.segment(segment, 0) == 3;
            Check.due(what + ", segment(" + segment + ", 0) is SPENT", spent ? 3 : 0, state[segment]);
        }
    }

    private static void takesThatWithTheLeastLife() {
        Run x = new Run();
        fill(x, 1, 2, 3);
        fill(x, 4);
        fill(x, 5, 6);
        fill(x);
        Check.due("clean(1)", x.clean(1), 1);
        isSpent("least life", x, 9);
        Check.due("told(2): the LIVE record wanted a new one", x.told(2), 12);
        Check.due("clean(1)", x.clean(1), 1);
        isSpent("then 11, where key 0 lives alone", x, 9, 11);
    }

    private static void takesTheOldOne() {
        Run x = new Run();
        fill(x, 1, 2);
        x.tick(5);
        fill(x);
        fill(x);
        Check.due("clean(1)", x.clean(1), 1);
        isSpent("792 * 6 / 1256 is above 1", x, 8);
    }

    private static void countsAllRecordsForTheAge() {
        Run x = new Run();
        // 8 ends with a record of a later TIME that does not live: its age is small all the same.
        Check.putMany(x, 0, 7);
        x.tick(50);
        Check.put(x, 0, 100);
        fill(x, 1);
        fill(x);
        Check.due("segment(8, 2)", x.segment(8, 2), 50);
        Check.due("segment(8, 1)", x.segment(8, 1), 0);
        Check.due("clean(1)", x.clean(1), 1);
        isSpent("the empty one of the same age", x, 8);
        Run y = new Run();
        fill(y, 1, 2, 3, 4);
        y.tick(50);
        Check.putMany(y, 0, 7);
        Check.put(y, 0, 100);
        y.put(5);
        fill(y);
        Check.due("clean(1)", y.clean(1), 1);
        isSpent("560 * 51 / 1488 is above 1", y, 8);
    }

    private static void takesTheLeastNumberOfTheSame() {
        Run x = new Run();
        fill(x, 1);
        fill(x, 2);
        fill(x, 3);
        fill(x);
        Check.due("clean(1)", x.clean(1), 1);
        isSpent("the same", x, 8);
    }

    private static void comparesExactly() {
        Run x = new Run();
        fill(x, 1, 2);
        fill(x, 3);
        fill(x);
        Check.due("clean(1)", x.clean(1), 1);
        isSpent("792 / 1256 is less than 908 / 1140, and both are below 1", x, 9);
    }

    private static void takesSeveral() {
        Run x = new Run();
        fill(x, 1);
        fill(x, 2, 3);
        fill(x);
        fill(x);
        Check.due("clean(8)", x.clean(8), 3);
        isSpent("all that there are", x, 8, 9, 10);
        Check.due("told(4)", x.told(4), 56 - 5);
        Check.due("segment(8, 1)", x.segment(8, 1), 0);
        Check.due("segment(8, 2)", x.segment(8, 2), 0);
        Check.due("segment(8, 3)", x.segment(8, 3), 0);
        Check.due("clean(8) again: 11 is not OPEN any more", x.clean(8), 1);
    }

    private static void sortsByTimeAndSequence() {
        Run x = new Run();
        fill(x, 1, 4);
        x.tick(10);
        Check.put(x, 2, 100);
        Check.put(x, 3, 100);
        x.clean(1);
        Check.due("where(1, 2)", x.where(1, 2), 11);
        Check.due("where(4, 2)", x.where(4, 2), 12);
        Check.due("where(0, 2)", x.where(0, 2), 13);
        Check.due("where(1, 3)", x.where(1, 3), 0);
        Check.putMany(x, 0, 5);
        Check.due("told(2)", x.told(2), 10);
        Check.due("clean(1)", x.clean(1), 1);
        int next = 13 + 5;
        int[] keys = {1, 4, 2, 3};
        for (int i = 0; i < keys.length; i++) {
            int key = keys[i];
            Check.due("where(" + key + ", 2)", x.where(key, 2), next + 1 + i);
            Check.due("where(" + key + ", 1)", x.where(key, 1), 242 + 116 * i);
            Check.due("where(" + key + ", 3)", x.where(key, 3), i < 2 ? 0 : 10);
            Check.due("where(" + key + ", 0)", x.where(key, 0), 10);
        }
        Check.due("segment(10, 2)", x.segment(10, 2), 10);
    }

    /** "sorted by TIME (of the same by SEQUENCE)", and not by their keys. */
    private static void sortsTheSameTimeBySequence() {
        Run x = new Run();
        int[] keys = {9, 299, 3, 7, 0};
        for (int key : keys) {
            x.put(key);
        }
        Check.fillTo(x, 20, 1018);
        x.tick(1);
        x.put(20);
        int next = x.told(0);
        Check.due("clean(1)", x.clean(1), 1);
        for (int i = 0; i < keys.length; i++) {
            Check.due("where(" + keys[i] + ", 2)", x.where(keys[i], 2), next + i);
            Check.due("where(" + keys[i] + ", 1)", x.where(keys[i], 1), 26 + 16 * i);
        }
    }

    /** The records of all that are chosen are sorted together: 8 is younger than 9 here. */
    private static void sortsOverSegments() {
        Run x = new Run();
        Check.fillTo(x, 0, 1018);
        x.put(50);
        Check.fillTo(x, 0, 1018);
        x.put(0);
        x.clean(1);
        x.checkpoint();
        Check.fillTo(x, 0, 1018);
        x.tick(1);
        x.put(10);
        Check.due("where(10, 0)", x.where(10, 0), 8);
        Check.fillTo(x, 0, 1018);
        x.put(0);
        int next = x.told(0);
        Check.due("clean(8)", x.clean(8), 3);
        Check.due("where(50, 2): of 9, with TIME 0", x.where(50, 2), next);
        Check.due("where(10, 2): of 8, with TIME 1", x.where(10, 2), next + 1);
        Check.due("where(50, 3)", x.where(50, 3), 0);
        Check.due("where(10, 3)", x.where(10, 3), 1);
    }

    private static void givesRecordsAgain() {
        Run x = new Run();
        x.tick(3);
        fill(x, 1);
        Check.put(x, 0, 100);
        x.tick(4);
        x.feed(0x5566, 2);
        Check.due("clean(1)", x.clean(1), 1);
        Check.due("where(1, 0)", x.where(1, 0), 9);
        Check.due("where(1, 1)", x.where(1, 1), 126);
        Check.due("where(1, 2)", x.where(1, 2), 10);
        Check.due("where(1, 3)", x.where(1, 3), 3);
        Check.due("size(1)", x.size(1), 100);
        Check.due("value(1, 99)", x.value(1, 99), 100);
        Check.due("told(0)", x.told(0), 11);
        x.sync();
        Check.due("its SUM", Check.number(x, 9, 126 + 112, 4), Check.sum(x, 9, 126, 112));
        Check.due("start()", x.start(), 10);
        Check.due("where(1, 2)", x.where(1, 2), 10);
        Check.due("segment(8, 0): it was not freed", x.segment(8, 0), 1);
        Check.due("feed: the value at hand stayed", x.feed(0, 1), 3);
    }

    /** "If that would want more segments than are FREE, nothing is done." */
    private static void wantsAsManyAsAreFree() {
        for (int free = 1; free <= 2; free++) {
            Run x = new Run();
            // 8 and 9 are full of what lives, 10 has one record: CLEANING both wants two.
            for (int key = 0; key < 127; key++) {
                x.put(key);
            }
            if (free == 2) {
                x.clean(1);
            }
            while (x.told(4) > free) {
                x.clean(2);
            }
            Check.due("told(4)", x.told(4), free);
            String before = free == 1 ? Check.snapshot(x) : "";
            Check.due("clean(2) when " + free + " are FREE", x.clean(2), free == 1 ? -4 : 2);
            Check.due("told(4)", x.told(4), free == 1 ? 1 : 0);
            Check.isTrue("nothing is done", free == 2 || before.equals(Check.snapshot(x)));
            Check.due("clean(1) then", x.clean(1), free == 1 ? 1 : -4);
            Check.due("told(4)", x.told(4), 0);
            Check.due("told(2): the last of all", x.told(2), 63);
            Check.due("clean(8): all is full, and none FREE", x.clean(8), -4);
            Check.due("told(5)", x.told(5), 127);
            Check.due("checkpoint()", x.checkpoint(), 1);
            Check.due("told(4)", x.told(4), 53);
            Check.due("clean(2) then", x.clean(2), 2);
        }
    }

    /** put() leaves two FREE segments, CLEANING takes them. */
    private static void takesTheLastFreeOnes() {
        Run x = new Run();
        Check.crowd(x, 2);
        Check.due("clean(1)", x.clean(1), 1);
        Check.due("told(4)", x.told(4), 1);
        Check.due("clean(1)", x.clean(1), 1);
        Check.due("told(4)", x.told(4), 0);
        Check.due("clean(1) that wants one", x.clean(1), -4);
        Check.due("clean(0) that would want one", x.clean(0), -2);
        Check.due("clean(9) that would want one", x.clean(9), -2);
        x.cut(1, 0);
        x.sync();
        Check.due("clean(1) when down", x.clean(1), -3);
    }

    /** A store in which so many segments are told to be USED: all without a record but 8, the OPEN one. */
    private static Run withUsed(int used) {
        Run x = new Run();
        x.put(1);
        x.checkpoint();
        for (int i = 0; i < used; i++) {
            Check.setNumber(x, 0, 28 + 1 + i, 1, 1);
        }
        Check.setSum(x, 0, 0, 84);
        x.start();
        Check.due("told(4)", x.told(4), 55 - used);
        return x;
    }

    /** "n with the greatest WORTH (all, if there are not so many)"; n is 1 .. 8. */
    private static void takesEightAtMost() {
        for (int used = 7; used <= 9; used++) {
            Run x = withUsed(used);
            Check.due("clean(8) of " + used, x.clean(8), Math.min(used, 8));
            Check.due("told(4): SPENT are not FREE", x.told(4), 55 - used);
            Check.due("clean(8) of the rest", x.clean(8), Math.max(used - 8, 0));
            Check.due("clean(8) of none", x.clean(8), 0);
        }
        for (int n = 1; n <= 8; n++) {
            Run x = withUsed(20);
            Check.due("clean(" + n + ") of 20", x.clean(n), n);
            int[] due = new int[n];
            for (int i = 0; i < n; i++) {
                due[i] = 9 + i;
            }
            isSpent("of the same the least numbers", x, due);
        }
    }

    /** "the greatest TIME of all records in it (0 without one)" */
    private static void isOldWithoutARecord() {
        Run x = new Run();
        for (int time = 0; time < 2; time++) {
            Check.fillTo(x, 0, 1018);
            x.tick(1);
            x.put(0);
        }
        // 8 has TIME 0, 9 TIME 1, 10 is OPEN, and 11 has no record: u is 0 in all.
        x.tick(5);
        x.checkpoint();
        Check.setNumber(x, 0, 28 + 3, 1, 1);
        Check.setSum(x, 0, 0, 84);
        x.start();
        Check.due("segment(11, 2)", x.segment(11, 2), 0);
        Check.due("segment(11, 0)", x.segment(11, 0), 1);
        Check.due("clean(2)", x.clean(2), 2);
        isSpent("8 and 11 are of the same age", x, 8, 11);
    }

    /** The TIME of a REMOVED record, and of one that does not live, counts for the age. */
    private static void countsRemovedRecordsForTheAge() {
        for (int kind = 0; kind < 2; kind++) {
            Run x = new Run();
            Check.fillTo(x, 0, 1008);
            x.tick(9);
            if (kind == 0) {
                x.remove(0);
            } else {
                x.put(0);
            }
            x.put(1);
            Check.fillTo(x, 0, 1018);
            x.put(0);
            Check.due("segment(8, 2)", x.segment(8, 2), 9);
            Check.due("segment(8, 1)", x.segment(8, 1), 0);
            Check.due("segment(9, 1)", x.segment(9, 1), 16);
            x.tick(1);
            Check.due("clean(1): 1024 * 2 / 1024 before 1008 * 2 / 1040", x.clean(1), 1);
            isSpent("8", x, 8);
        }
    }

    /** 8 has 32 LIVE records of 16 octets and the age of ticks + 1, 9 none and the age of 1. */
    private static Run halfAlive(int ticks) {
        Run x = new Run();
        for (int key = 100; key < 132; key++) {
            x.put(key);
        }
        Check.fillTo(x, 0, 1018);
        for (int left = ticks; left > 0; left -= 100000) {
            x.tick(Math.min(left, 100000));
        }
        for (int i = 0; i < 64; i++) {
            x.put(0);
        }
        Check.due("segment(8, 1)", x.segment(8, 1), 512);
        Check.due("segment(9, 1)", x.segment(9, 1), 0);
        return x;
    }

    /** "WORTH: (1024 - u) * a / (1024 + u), exactly", which is a / 3 for 8 and 1 for 9. */
    private static void weighsLifeAgainstAge() {
        Run x = halfAlive(1);
        x.clean(1);
        isSpent("2 / 3 is less than 1", x, 9);
        x = halfAlive(2);
        x.clean(1);
        isSpent("3 / 3 is 1: the least number", x, 8);
        x = halfAlive(3);
        x.clean(1);
        isSpent("4 / 3 is more than 1", x, 8);
        int[] many = {100000, 1500000, 2000000, 2500000, 3000000, 4200000, 5000000, 9000000, 20000000};
        for (int ticks : many) {
            x = halfAlive(ticks);
            x.clean(1);
            isSpent("what is beyond 32 bits is not cut off, with " + ticks, x, 8);
        }
    }

    /** The WORTH of 9 is 10000000, and that of 8 is a third less, the same, or a third more. */
    private static void weighsExactly() {
        for (int third = -1; third <= 1; third++) {
            Run x = halfAlive(20000000 + third);
            for (int i = 0; i < 100; i++) {
                x.tick(i == 0 ? 99999 : 100000);
            }
            Check.due("told(1) and 1 less the TIME of 9", x.told(1) + 1 - x.segment(9, 2), 10000000);
            Check.due("told(1) and 1 less the TIME of 8", x.told(1) + 1 - x.segment(8, 2), 30000000 + third);
            x.clean(1);
            isSpent(third + " thirds more", x, third < 0 ? 9 : 8);
        }
    }

    /** "a the CLOCK and 1 less the greatest TIME": that is 2^31 for 8, and 2^31 less 1 for 9. */
    private static void isOldAtTheLastClock() {
        Run x = new Run();
        Check.fillTo(x, 0, 1018);
        x.tick(1);
        for (int i = 0; i < 64; i++) {
            x.put(0);
        }
        Check.due("segment(8, 2)", x.segment(8, 2), 0);
        Check.due("segment(9, 2)", x.segment(9, 2), 1);
        x.checkpoint();
        Check.forgeRegion(x, 0, 10, 4, Integer.MAX_VALUE);
        x.start();
        Check.due("told(1)", x.told(1), Integer.MAX_VALUE);
        Check.due("clean(1)", x.clean(1), 1);
        isSpent("the older one", x, 8);
    }

    /** A segment that is USED again knows nothing of its records before. */
    private static void forgetsTheTimesOfBefore() {
        Run x = new Run();
        Check.fillTo(x, 0, 1018);
        for (int key = 100; key < 162; key++) {
            x.put(key);
        }
        x.put(0);
        x.tick(50);
        for (int i = 0; i < 64; i++) {
            x.put(0);
        }
        Check.due("segment(10, 2)", x.segment(10, 2), 50);
        Check.due("clean(2)", x.clean(2), 2);
        isSpent("32 * 51 / 2016 is less than 1", x, 8, 10);
        x.checkpoint();
        Check.fillTo(x, 0, 1018);
        x.put(0);
        Check.due("told(2)", x.told(2), 8);
        Check.fillTo(x, 0, 1018);
        Check.due("clean(2)", x.clean(2), 2);
        Check.due("told(2): what lived in 9 came to 10", x.told(2), 10);
        Check.due("segment(10, 2): TIME 0 only", x.segment(10, 2), 0);
        Check.due("segment(10, 1)", x.segment(10, 1), 62 * 16);
        Check.due("segment(8, 2)", x.segment(8, 2), 50);
    }

    /** Nothing is done: not even those are SPENT in which nothing lives. */
    private static void spendsAllOrNone() {
        Run x = new Run();
        for (int key = 0; key < 64; key++) {
            x.put(key);
        }
        x.checkpoint();
        int flags = 23 + 5 * 64;
        for (int segment = 10; segment < 64; segment++) {
            Check.setNumber(x, 0, flags + segment - 8, 1, 1);
        }
        Check.setSum(x, 0, 0, flags + 56);
        x.start();
        Check.due("told(4)", x.told(4), 0);
        for (int i = 0; i < 6; i++) {
            Check.due("clean(8) of empty ones", x.clean(8), 8);
        }
        Check.due("clean(3) of empty ones", x.clean(3), 3);
        String before = Check.snapshot(x);
        Check.due("clean(8) of three empty ones and a full one", x.clean(8), -4);
        Check.due("clean(4)", x.clean(4), -4);
        Check.isTrue("nothing is done", before.equals(Check.snapshot(x)));
        Check.due("clean(3)", x.clean(3), 3);
        Check.due("clean(1)", x.clean(1), -4);
    }

    /** The segment of the less number is the younger one here, with nothing that lives. */
    private static void takesTheLeastNumberOfTheSameWorth() {
        for (int ticks = 1; ticks <= 3; ticks++) {
            Run x = new Run();
            Check.fillTo(x, 0, 1018);
            for (int key = 100; key < 132; key++) {
                x.put(key);
            }
            Check.fillTo(x, 0, 1018);
            x.put(0);
            Check.due("clean(1)", x.clean(1), 1);
            x.checkpoint();
            Check.fillTo(x, 0, 1018);
            x.tick(ticks);
            for (int i = 0; i < 64; i++) {
                x.put(0);
            }
            Check.due("segment(8, 2)", x.segment(8, 2), ticks);
            Check.due("segment(9, 1)", x.segment(9, 1), 512);
            Check.due("segment(11, 0)", x.segment(11, 0), 2);
            Check.due("clean(2)", x.clean(2), 2);
            isSpent("10, and of 9 with " + (ticks + 1) + " / 3 and 8 with 1", x, ticks == 3 ? 9 : 8, 10);
        }
    }

    /** What lives of the first and of the last of all keys counts for the WORTH, and is copied. */
    private static void weighsTheFirstAndTheLastKey() {
        for (int key = 0; key < 300; key += 299) {
            Run x = new Run();
            x.put(key);
            Check.fillTo(x, 5, 1018);
            for (int i = 0; i < 64; i++) {
                x.put(5);
            }
            Check.due("segment(8, 1)", x.segment(8, 1), 16);
            Check.due("clean(1)", x.clean(1), 1);
            isSpent("9, where nothing lives", x, 9);
            Check.due("clean(1)", x.clean(1), 1);
            isSpent("8 then", x, 8, 9);
            Check.due("where(" + key + ", 0)", x.where(key, 0), 10);
        }
    }

    /** "those that are USED and not OPEN": not the OPEN one, though nothing lives in it. */
    private static void neverTakesTheOpenOne() {
        Run x = new Run();
        for (int key = 0; key < 63; key++) {
            x.put(key);
        }
        x.put(100);
        x.remove(100);
        Check.due("segment(9, 1)", x.segment(9, 1), 0);
        Check.due("clean(1)", x.clean(1), 1);
        isSpent("8, where all lives", x, 8);
        Check.due("clean(8): 9 only, SPENT ones are not USED", x.clean(8), 1);
        isSpent("8 and 9", x, 8, 9);
    }

    private static void bringsNothingWhereNothingLives() {
        Run x = new Run();
        Check.fillTo(x, 0, 1018);
        x.put(0);
        int next = x.told(0);
        Check.due("clean(1)", x.clean(1), 1);
        Check.due("told(0)", x.told(0), next);
        Check.due("told(3)", x.told(3), 26);
        Check.due("told(4)", x.told(4), 54);
    }

    /** No segment is FREE, and 86 octets are left in the OPEN one. */
    private static void wantsNoneForWhatFits() {
        for (int length = 70; length <= 71; length++) {
            Run x = new Run();
            Check.put(x, 1, length);
            Check.putMany(x, 0, length == 70 ? 16 : 15);
            x.checkpoint();
            for (int segment = 10; segment < 64; segment++) {
                Check.setNumber(x, 0, 33 + segment - 8, 1, 1);
            }
            Check.setSum(x, 0, 0, 89);
            x.start();
            Check.due("told(4)", x.told(4), 0);
            Check.due("told(3)", x.told(3), 938);
            for (int i = 0; i < 9; i++) {
                Check.due("clean(6) of empty ones", x.clean(6), 6);
            }
            Check.due("clean(1) of " + length + " octets", x.clean(1), length == 70 ? 1 : -4);
            Check.due("where(1, 0)", x.where(1, 0), length == 70 ? 9 : 8);
            Check.due("told(3)", x.told(3), length == 70 ? 1024 : 938);
        }
    }

    /** Without an OPEN segment the first LIVE record wants one. */
    private static void wantsOneWhenNoneIsOpen() {
        for (int free = 0; free <= 1; free++) {
            Run x = new Run();
            x.put(1);
            x.checkpoint();
            Check.setNumber(x, 0, 14, 1, 0);
            Check.setNumber(x, 0, 15, 2, 0);
            for (int segment = 8; segment < 64 - free; segment++) {
                Check.setNumber(x, 0, 28 + segment - 8, 1, 1);
            }
            Check.setSum(x, 0, 0, 84);
            x.start();
            Check.due("told(2)", x.told(2), 0);
            Check.due("told(4)", x.told(4), free);
            for (int left = 55 - free; left > 0; left -= 6) {
                Check.due("clean of empty ones", x.clean(Math.min(left, 6)), Math.min(left, 6));
            }
            Check.due("told(2)", x.told(2), 0);
            Check.due("clean(1) when " + free + " are FREE", x.clean(1), free == 0 ? -4 : 1);
            Check.due("told(2)", x.told(2), free == 0 ? 0 : 63);
            Check.due("where(1, 0)", x.where(1, 0), free == 0 ? 8 : 63);
        }
    }

    private static void ticks() {
        Run x = new Run();
        Check.due("tick(0)", x.tick(0), 0);
        Check.due("tick(5)", x.tick(5), 5);
        Check.due("tick(100000)", x.tick(100000), 100005);
        int[] wrong = {100001, -1, Integer.MIN_VALUE, Integer.MAX_VALUE};
        for (int n : wrong) {
            Check.due("tick(" + n + ")", x.tick(n), -2);
        }
        Check.due("told(1)", x.told(1), 100005);
        x.put(1);
        Check.due("where(1, 3)", x.where(1, 3), 100005);
        x.cut(1, 0);
        x.sync();
        Check.due("tick(0) when down", x.tick(0), -3);
        Check.due("tick(-1) when down", x.tick(-1), -3);
        x.start();
        Check.due("tick(0) behind start()", x.tick(0), 0);
    }
}

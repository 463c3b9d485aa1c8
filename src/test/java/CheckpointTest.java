/** Promise 8: checkpoint. */
public final class CheckpointTest {
    public static void main(String[] args) {
        laysItOut();
        ofAnEmptyStore();
        takesTurns();
        endsAtTheEndOfASector();
        hasZerosBehindAShorterOne();
        goesOverSegments();
        tellsOfAFullSegment();
        tellsOfTheLastSegment();
        syncsFirst();
        writesSectorsFromTheLowestOn();
        freesSpentSegments();
        keepsTheTurnWhenPowerGoes();
        failsWithPower();
        Check.end();
    }

    private static void laysItOut() {
        Run x = new Run();
        for (int i = 90; i < 130; i++) {
            x.poke(0, i, 255);
        }
        Check.put(x, 299, 3);
        x.put(5);
        x.tick(7);
        Check.due("checkpoint()", x.checkpoint(), 1);
        Check.due("told(8): one of the log, two of the REGION", x.told(8), 3);
        int clock = x.told(1);
        int[] octets = {67, 80, 0, 0, 0, 1, 0, 0, 0, 3, 0, 0, 0, clock, 8, 0, 45, 0, 0, 0, 1, 0, 2,
            0, 5, 8, 0, 29, 1, 43, 8, 0, 10, 1};
        for (int i = 0; i < octets.length; i++) {
            Check.due("disk(0, " + i + ")", x.disk(0, i), octets[i]);
        }
        for (int i = octets.length; i < 89; i++) {
            Check.due("disk(0, " + i + ")", x.disk(0, i), 0);
        }
        Check.due("the SUM", Check.number(x, 0, 89, 4), Check.sum(x, 0, 0, 89));
        for (int i = 93; i < 128; i++) {
            Check.due("disk(0, " + i + ") behind it", x.disk(0, i), 0);
        }
        Check.due("disk(0, 128) in a SECTOR that is not written", x.disk(0, 128), 255);
        Check.due("told(6)", x.told(6), 0);
        Check.due("told(7)", x.told(7), 1);
    }

    private static void ofAnEmptyStore() {
        Run x = new Run();
        Check.due("checkpoint()", x.checkpoint(), 1);
        Check.due("told(8)", x.told(8), 2);
        for (int i = 10; i < 79; i++) {
            Check.due("disk(0, " + i + ")", x.disk(0, i), 0);
        }
        Check.due("the SUM", Check.number(x, 0, 79, 4), Check.sum(x, 0, 0, 79));
        Check.due("start()", x.start(), 0);
        Check.due("told(7)", x.told(7), 1);
        Check.due("put(1)", x.put(1), 1);
    }

    private static void takesTurns() {
        Run x = new Run();
        for (int number = 1; number <= 5; number++) {
            Check.due("checkpoint()", x.checkpoint(), number);
            int segment = number % 2 == 1 ? 0 : 4;
            Check.due("disk(" + segment + ", 5)", x.disk(segment, 5), number);
            Check.due("the other", x.disk(4 - segment, 5), number - 1);
        }
    }

    /** "all SECTORS in which there is something of it, .. with 0 behind it in the last" */
    private static void endsAtTheEndOfASector() {
        int[][] keysAndSectors = {{8, 2}, {9, 2}, {10, 3}, {21, 3}, {22, 4}};
        for (int[] of : keysAndSectors) {
            int keys = of[0];
            Run x = new Run();
            for (int i = 120; i < 300; i++) {
                x.poke(0, i, 255);
            }
            for (int key = 0; key < keys; key++) {
                x.put(key);
            }
            x.sync();
            int before = x.told(8);
            Check.due("checkpoint() of " + keys, x.checkpoint(), 1);
            // 123, 128, 133, 188 and 193 octets.
            int end = 83 + 5 * keys;
            int sectors = of[1];
            Check.due("its SECTORS", x.told(8) - before, sectors);
            Check.due("its SUM", Check.number(x, 0, end - 4, 4), Check.sum(x, 0, 0, end - 4));
            for (int i = end; i < 300; i++) {
                Check.due("disk(0, " + i + ")", x.disk(0, i), i < 64 * sectors ? 0 : 255);
            }
            x.start();
            Check.due("told(5) behind start()", x.told(5), keys);
        }
    }

    private static void hasZerosBehindAShorterOne() {
        Run x = new Run();
        for (int key = 0; key < 20; key++) {
            x.put(key);
        }
        x.checkpoint();
        for (int key = 10; key < 20; key++) {
            x.remove(key);
        }
        x.checkpoint();
        for (int i = 133; i < 192; i++) {
            Check.due("disk(4, " + i + ")", x.disk(4, i), 0);
        }
        x.checkpoint();
        for (int i = 133; i < 192; i++) {
            Check.due("disk(0, " + i + ")", x.disk(0, i), 0);
        }
    }

    /** A REGION is one row over four segments; 300 keys are the most that can have a value. */
    private static void goesOverSegments() {
        Run x = new Run();
        for (int key = 0; key < 300; key++) {
            x.put(key);
        }
        x.sync();
        for (int region = 0; region < 2; region++) {
            int before = x.told(8);
            Check.due("checkpoint()", x.checkpoint(), region + 1);
            Check.due("its SECTORS", x.told(8) - before, 25);
            Check.due("its SUM", Check.number(x, 4 * region, 1579, 4), Check.sum(x, 4 * region, 0, 1579));
            Check.due("its keys", Check.number(x, 4 * region, 21, 2), 300);
            for (int key = 0; key < 300; key++) {
                int at = 23 + key * 5;
                Check.due("a key", Check.number(x, 4 * region, at, 2), key);
                Check.due("its segment", Check.number(x, 4 * region, at + 2, 1), 8 + key / 63);
                Check.due("its place", Check.number(x, 4 * region, at + 3, 2), 10 + key % 63 * 16);
            }
        }
        Check.due("told(5) at once", x.told(5), 300);
        x.start();
        Check.due("told(5) behind start()", x.told(5), 300);
        Check.due("where(299, 2)", x.where(299, 2), 300);
    }

    private static void tellsOfAFullSegment() {
        Run x = new Run();
        Check.fillTo(x, 1, 1024);
        x.checkpoint();
        Check.due("OPEN", x.disk(0, 14), 8);
        Check.due("PLACE", Check.number(x, 0, 15, 2), 1024);
        Check.due("where the record begins", Check.number(x, 0, 26, 2), 1008);
        x.start();
        Check.due("told(2)", x.told(2), 8);
        Check.due("told(3)", x.told(3), 1024);
        Check.due("where(1, 1)", x.where(1, 1), 1008);
        x.put(2);
        Check.due("told(2) behind put()", x.told(2), 9);
    }

    /** "for each segment of the log, 8 .. 63: 1 if it is USED, else 0" */
    private static void tellsOfTheLastSegment() {
        Run x = new Run();
        Check.crowd(x, 0);
        Check.due("told(2)", x.told(2), 63);
        Check.due("checkpoint()", x.checkpoint(), 1);
        int flags = 23 + 5 * 64;
        for (int segment = 8; segment < 64; segment++) {
            int due = segment >= 62 ? 1 : 0;
            Check.due("what is told of " + segment, Check.number(x, 0, flags + segment - 8, 1), due);
        }
        Check.due("OPEN", x.disk(0, 14), 63);
        Check.due("ORDER", Check.number(x, 0, 17, 4), 56);
        Check.due("the SUM", Check.number(x, 0, flags + 56, 4), Check.sum(x, 0, 0, flags + 56));
        Check.due("told(4): those that were SPENT", x.told(4), 54);
        x.start();
        Check.due("told(4)", x.told(4), 54);
        Check.due("segment(62, 0)", x.segment(62, 0), 1);
        Check.due("segment(63, 0)", x.segment(63, 0), 2);
    }

    /** "A CHECKPOINT: a SYNC; then into the REGION" */
    private static void syncsFirst() {
        for (int n = 1; n <= 3; n++) {
            Run x = new Run();
            Check.put(x, 1, 100);
            x.cut(n, 63);
            Check.due("checkpoint()", x.checkpoint(), -5);
            Check.due("disk(8, 0)", x.disk(8, 0), 76);
            Check.due("disk(8, 63)", x.disk(8, 63), n == 1 ? 0 : 42);
            Check.due("disk(8, 64)", x.disk(8, 64), n == 1 ? 0 : 43);
            Check.due("disk(0, 0)", x.disk(0, 0), n == 3 ? 67 : 0);
        }
    }

    private static void writesSectorsFromTheLowestOn() {
        for (int n = 1; n <= 3; n++) {
            Run x = new Run();
            for (int key = 0; key < 10; key++) {
                x.put(key);
            }
            x.sync();
            x.poke(0, 0, 200);
            x.poke(0, 64, 200);
            x.poke(0, 128, 200);
            x.cut(n, 0);
            Check.due("checkpoint()", x.checkpoint(), -5);
            Check.due("disk(0, 0)", x.disk(0, 0), n > 1 ? 67 : 200);
            Check.due("disk(0, 64) was written", x.disk(0, 64) != 200 ? 1 : 0, n > 2 ? 1 : 0);
            Check.due("disk(0, 128)", x.disk(0, 128), 200);
        }
    }

    /** The turn and the NUMBER go on only by a CHECKPOINT that is done. */
    private static void keepsTheTurnWhenPowerGoes() {
        Run x = new Run();
        x.cut(2, 5);
        Check.due("checkpoint()", x.checkpoint(), -5);
        x.start();
        Check.due("told(7)", x.told(7), 0);
        Check.due("checkpoint() again", x.checkpoint(), 1);
        Check.due("disk(0, 5)", x.disk(0, 5), 1);
        Check.due("disk(4, 5)", x.disk(4, 5), 0);
        x.cut(1, 63);
        Check.due("checkpoint() of 2", x.checkpoint(), -5);
        Check.due("disk(4, 5)", x.disk(4, 5), 2);
        x.start();
        Check.due("told(7)", x.told(7), 1);
        Check.due("checkpoint() of 2 again", x.checkpoint(), 2);
        Check.due("disk(0, 5)", x.disk(0, 5), 1);
        Check.due("disk(4, 5)", x.disk(4, 5), 2);
    }

    private static void freesSpentSegments() {
        Run x = new Run();
        Check.putMany(x, 1, 9);
        x.clean(1);
        Check.due("segment(8, 0)", x.segment(8, 0), 3);
        x.sync();
        Check.due("segment(8, 0) behind sync()", x.segment(8, 0), 3);
        Check.due("told(4)", x.told(4), 54);
        x.checkpoint();
        Check.due("segment(8, 0)", x.segment(8, 0), 0);
        Check.due("told(4)", x.told(4), 55);
        Check.due("8 is not told as USED", x.disk(0, 28), 0);
        Check.due("9 is", x.disk(0, 29), 1);
    }

    private static void failsWithPower() {
        Run x = new Run();
        x.put(1);
        x.checkpoint();
        x.put(2);
        x.cut(2, 63);
        Check.due("checkpoint()", x.checkpoint(), -5);
        Check.due("checkpoint() when down", x.checkpoint(), -3);
        Check.due("told(8)", x.told(8), 4);
        Check.due("start()", x.start(), 1);
        Check.due("told(7)", x.told(7), 1);
        Check.due("told(5)", x.told(5), 2);
        Check.due("checkpoint() again", x.checkpoint(), 2);
        Check.due("disk(4, 5)", x.disk(4, 5), 2);
        x.put(3);
        x.cut(1, 0);
        Check.due("checkpoint() that fails in its SYNC", x.checkpoint(), -5);
        Check.due("start()", x.start(), 0);
        Check.due("told(7)", x.told(7), 2);
        Check.due("size(3)", x.size(3), -1);
    }
}

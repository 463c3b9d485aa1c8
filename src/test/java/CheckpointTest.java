/** Promise 8: checkpoint. */
public final class CheckpointTest {
    public static void main(String[] args) {
        laysItOut();
        ofAnEmptyStore();
        takesTurns();
        goesOverSegments();
        freesSpentSegments();
        failsWithPower();
        Check.end();
    }

    private static void laysItOut() {
        AgedLog x = new AgedLog();
        for (int i = 90; i < 130; i++) {
            x.poke(0, i, 255);
        }
        Check.put(x, 299, 3);
        x.put(5);
        x.tick(7);
        Check.due("checkpoint()", x.checkpoint(), 1);
        Check.due("told(8): one of the log, two of the REGION", x.told(8), 3);
        int clock = x.told(1);
        int[] octets = {67, 80, 0, 0, 0, 1, 0, 0, 0, 3, 0, 0, 0, clock, 8, 0, 45, 0, 0, 0, 1, 0, 2,
            0, 5, 8, 0, 29, 1, 43, 8, 0, 10, 1};
        for (int i = 0; i < octets.length; i++) {
            Check.due("disk(0, " + i + ")", x.disk(0, i), octets[i]);
        }
        for (int i = octets.length; i < 89; i++) {
            Check.due("disk(0, " + i + ")", x.disk(0, i), 0);
        }
        Check.due("the SUM", Check.number(x, 0, 89, 4), Check.sum(x, 0, 0, 89));
        for (int i = 93; i < 128; i++) {
            Check.due("disk(0, " + i + ") behind it", x.disk(0, i), 0);
        }
        Check.due("disk(0, 128) in a SECTOR that is not written", x.disk(0, 128), 255);
        Check.due("told(6)", x.told(6), 0);
        Check.due("told(7)", x.told(7), 1);
    }

    private static void ofAnEmptyStore() {
        AgedLog x = new AgedLog();
        Check.due("checkpoint()", x.checkpoint(), 1);
        Check.due("told(8)", x.told(8), 2);
        for (int i = 10; i < 79; i++) {
            Check.due("disk(0, " + i + ")", x.disk(0, i), 0);
        }
        Check.due("the SUM", Check.number(x, 0, 79, 4), Check.sum(x, 0, 0, 79));
        Check.due("start()", x.start(), 0);
        Check.due("told(7)", x.told(7), 1);
        Check.due("put(1)", x.put(1), 1);
    }

    private static void takesTurns() {
        AgedLog x = new AgedLog();
        for (int number = 1; number <= 5; number++) {
            Check.due("checkpoint()", x.checkpoint(), number);
            int segment = number % 2 == 1 ? 0 : 4;
            Check.due("disk(" + segment + ", 5)", x.disk(segment, 5), number);
            Check.due("the other", x.disk(4 - segment, 5), number - 1);
        }
    }

    private static void goesOverSegments() {
        AgedLog x = new AgedLog();
        for (int key = 0; key < 300; key++) {
            x.put(key);
        }
        x.sync();
        int before = x.told(8);
        Check.due("checkpoint()", x.checkpoint(), 1);
        Check.due("its SECTORS", x.told(8) - before, 25);
        Check.due("its SUM", Check.number(x, 0, 1579, 4), Check.sum(x, 0, 0, 1579));
        Check.due("the last key", Check.number(x, 0, 23 + 299 * 5, 2), 299);
        Check.due("told(5) at once", x.told(5), 300);
        x.start();
        Check.due("told(5) behind start()", x.told(5), 300);
        Check.due("where(299, 2)", x.where(299, 2), 300);
    }

    private static void freesSpentSegments() {
        AgedLog x = new AgedLog();
        Check.putMany(x, 1, 9);
        x.clean(1);
        Check.due("segment(8, 0)", x.segment(8, 0), 3);
        x.sync();
        Check.due("segment(8, 0) behind sync()", x.segment(8, 0), 3);
        Check.due("told(4)", x.told(4), 54);
        x.checkpoint();
        Check.due("segment(8, 0)", x.segment(8, 0), 0);
        Check.due("told(4)", x.told(4), 55);
        Check.due("8 is not told as USED", x.disk(0, 28), 0);
        Check.due("9 is", x.disk(0, 29), 1);
    }

    private static void failsWithPower() {
        AgedLog x = new AgedLog();
        x.put(1);
        x.checkpoint();
        x.put(2);
        x.cut(2, 63);
        Check.due("checkpoint()", x.checkpoint(), -5);
        Check.due("checkpoint() when down", x.checkpoint(), -3);
        Check.due("told(8)", x.told(8), 4);
        Check.due("start()", x.start(), 1);
        Check.due("told(7)", x.told(7), 1);
        Check.due("told(5)", x.told(5), 2);
        Check.due("checkpoint() again", x.checkpoint(), 2);
        Check.due("disk(4, 5)", x.disk(4, 5), 2);
        x.put(3);
        x.cut(1, 0);
        Check.due("checkpoint() that fails in its SYNC", x.checkpoint(), -5);
        Check.due("start()", x.start(), 0);
        Check.due("told(7)", x.told(7), 2);
        Check.due("size(3)", x.size(3), -1);
    }
}

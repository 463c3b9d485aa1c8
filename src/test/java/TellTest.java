/** Promises 15 to 17: segment, where and told. */
public final class TellTest {
    public static void main(String[] args) {
        segments();
        countsTheFirstAndTheLastKey();
        keys();
        tells();
        whenDown();
        Check.end();
    }

    private static void segmentIs(Run x, int segment, int... due) {
        for (int what = 0; what < 4; what++) {
            Check.due("segment(" + segment + ", " + what + ")", x.segment(segment, what), due[what]);
        }
    }

    private static void segments() {
        Run x = new Run();
        int[] none = {-1, 0, 7, 64, Integer.MIN_VALUE, Integer.MAX_VALUE};
        for (int segment : none) {
            Check.due("segment(" + segment + ", 0)", x.segment(segment, 0), -1);
            Check.due("segment(" + segment + ", 9)", x.segment(segment, 9), -1);
        }
        Check.due("segment(8, 4)", x.segment(8, 4), -2);
        Check.due("segment(8, -1)", x.segment(8, -1), -2);
        Check.due("segment(63, 0)", x.segment(63, 0), 0);
        x.tick(6);
        Check.putMany(x, 1, 7);
        x.tick(1);
        Check.put(x, 2, 100);
        Check.put(x, 1, 50);
        segmentIs(x, 8, 2, 116 + 66, 7, 1);
        x.tick(1);
        x.remove(2);
        segmentIs(x, 8, 2, 66, 8, 1);
        Check.put(x, 3, 5);
        segmentIs(x, 8, 1, 66, 8, 1);
        segmentIs(x, 9, 2, 21, 8, 2);
        segmentIs(x, 10, 0, 0, 0, 0);
        x.clean(1);
        segmentIs(x, 8, 3, 0, 0, 0);
        segmentIs(x, 9, 2, 21 + 66, 8, 2);
        x.checkpoint();
        segmentIs(x, 8, 0, 0, 0, 0);
        Check.putMany(x, 4, 8);
        segmentIs(x, 8, 2, 116, 8, 3);
    }

    /** "how much lives in a segment are the octets of the LIVE records in it": of KEYS 0 .. 299. */
    private static void countsTheFirstAndTheLastKey() {
        Run x = new Run();
        Check.put(x, 0, 1);
        Check.due("segment(8, 1)", x.segment(8, 1), 17);
        Check.put(x, 299, 100);
        Check.due("segment(8, 1)", x.segment(8, 1), 133);
        x.remove(0);
        Check.due("segment(8, 1)", x.segment(8, 1), 116);
        x.put(299);
        Check.due("segment(8, 1)", x.segment(8, 1), 16);
        x.remove(299);
        Check.due("segment(8, 1)", x.segment(8, 1), 0);
        for (int key = 0; key < 299; key += 298) {
            x.put(key + 1);
        }
        Check.due("segment(8, 1)", x.segment(8, 1), 32);
    }

    private static void keys() {
        Run x = new Run();
        x.tick(4);
        Check.put(x, 299, 2);
        x.tick(5);
        Check.put(x, 0, 1);
        int[] due = {8, 28, 2, 9};
        for (int what = 0; what < 4; what++) {
            Check.due("where(0, " + what + ")", x.where(0, what), due[what]);
        }
        Check.due("where(299, 1)", x.where(299, 1), 10);
        Check.due("where(299, 3)", x.where(299, 3), 4);
        Check.due("where(0, 4)", x.where(0, 4), -2);
        Check.due("where(0, -1)", x.where(0, -1), -2);
        int[] none = {-1, 1, 300, Integer.MIN_VALUE, Integer.MAX_VALUE};
        for (int key : none) {
            Check.due("where(" + key + ", 0)", x.where(key, 0), -1);
            Check.due("where(" + key + ", 4)", x.where(key, 4), -1);
        }
        x.remove(0);
        Check.due("where(0, 2) behind remove(0)", x.where(0, 2), -1);
    }

    private static void toldIs(Run x, int... due) {
        for (int what = 0; what < due.length; what++) {
            Check.due("told(" + what + ")", x.told(what), due[what]);
        }
    }

    private static void tells() {
        Run x = new Run();
        Check.due("told(-1)", x.told(-1), -2);
        Check.due("told(10)", x.told(10), -2);
        x.tick(9);
        Check.put(x, 1, 4);
        Check.put(x, 1, 4);
        Check.put(x, 2, 4);
        toldIs(x, 4, 9, 8, 70, 55, 2, 70, 0, 0, 0);
        x.sync();
        toldIs(x, 4, 9, 8, 70, 55, 2, 0, 0, 2, 0);
        x.remove(1);
        toldIs(x, 5, 9, 8, 86, 55, 1, 16, 0, 2, 0);
        x.checkpoint();
        toldIs(x, 5, 9, 8, 86, 55, 1, 0, 1, 5, 0);
        Check.putMany(x, 3, 9);
        toldIs(x, 14, 9, 9, 126, 54, 2, 928 + 126, 1, 5, 0);
        x.clean(1);
        toldIs(x, 15, 9, 9, 146, 54, 2, 928 + 146, 1, 5, 0);
    }

    private static void whenDown() {
        Run x = new Run();
        x.tick(9);
        Check.put(x, 1, 4);
        x.checkpoint();
        x.put(2);
        x.cut(1, 0);
        x.sync();
        toldIs(x, 0, 0, 0, 0, 0, 0, 0, 0, 3, 1);
        Check.due("told(10) when down", x.told(10), -2);
        Check.due("told(-1) when down", x.told(-1), -2);
        Check.due("segment(8, 0) when down", x.segment(8, 0), -3);
        Check.due("segment(0, 9) when down", x.segment(0, 9), -3);
        Check.due("where(1, 0) when down", x.where(1, 0), -3);
        Check.due("where(300, 9) when down", x.where(300, 9), -3);
        x.start();
        toldIs(x, 2, 9, 8, 30, 55, 1, 0, 1, 3, 0);
    }
}

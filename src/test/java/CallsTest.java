import java.util.Random;

/**
 * "An object is used for at most 512 calls after it has been made; what later calls answer is
 * free." So the 512th call still answers as is due, and of later ones only LANGUAGE.md tells
 * something: no call may ever throw or fail to end.
 */
public final class CallsTest {
    private static final int MOST_CALLS = 512;

    public static void main(String[] args) {
        theLastCallIsAPut();
        theLastCallIsAnother();
        theLastCallReadsTheFirstValue();
        dearCallsToTheLast();
        laterCallsEnd();
        Check.end();
    }

    /** An object on which all calls but one are made. */
    private static AgedLog allButOne() {
        AgedLog x = new AgedLog();
        for (int i = 1; i < MOST_CALLS; i++) {
            Check.due("put " + i, x.put(i % 300), i);
        }
        return x;
    }

    private static void theLastCallIsAPut() {
        Check.due("put as the last call", allButOne().put(7), 512);
        Check.due("put of no key", allButOne().put(300), -2);
    }

    /** 511 records of 16 octets, 63 in a segment: 8 full ones, and 7 in segment 16. */
    private static void theLastCallIsAnother() {
        Check.due("feed", allButOne().feed(1, 8), 8);
        Check.due("remove", allButOne().remove(7), 512);
        Check.due("size", allButOne().size(7), 0);
        Check.due("value", allButOne().value(7, 0), -1);
        Check.due("sync: 16 SECTORS of each full one, 2 of the last", allButOne().sync(), 8 * 16 + 2);
        Check.due("checkpoint", allButOne().checkpoint(), 1);
        Check.due("clean", allButOne().clean(8), 8);
        Check.due("tick", allButOne().tick(100000), 100000);
        Check.due("cut", allButOne().cut(10000, 63), 1);
        Check.due("start", allButOne().start(), 0);
        Check.due("disk", allButOne().disk(8, 0), 0);
        Check.due("poke", allButOne().poke(63, 1023, 255), 255);
        Check.due("segment", allButOne().segment(16, 1), 7 * 16);
        Check.due("where", allButOne().where(211, 1), 10 + 6 * 16);
        int[] told = {512, 0, 16, 10 + 7 * 16, 47, 300, 8 * 1018 + 122, 0, 0, 0};
        for (int what = 0; what < told.length; what++) {
            Check.due("told(" + what + ")", allButOne().told(what), told[what]);
        }
    }

    private static void theLastCallReadsTheFirstValue() {
        AgedLog x = new AgedLog();
        x.feed(0x55, 1);
        x.put(0);
        for (int i = 3; i < MOST_CALLS; i++) {
            Check.due("put", x.put(1), i - 1);
        }
        Check.due("value", x.value(0, 0), 0x55);
    }

    /** Each key that can live does, and all of it is copied, written and gone through again and again. */
    private static void dearCallsToTheLast() {
        AgedLog x = new AgedLog();
        for (int key = 0; key < 300; key++) {
            Check.due("put", x.put(key), key + 1);
        }
        for (int round = 1; round <= 52; round++) {
            Check.due("clean", x.clean(8), 4);
            Check.due("checkpoint", x.checkpoint(), round);
            Check.due("start", x.start(), 0);
            x.tick(1);
        }
        // 300 + 52 * 4 calls so far, and four are left.
        Check.due("told(5)", x.told(5), 300);
        Check.due("told(7)", x.told(7), 52);
        Check.due("told(9)", x.told(9), 0);
        Check.due("where(299, 3)", x.where(299, 3), 0);
    }

    private static void laterCallsEnd() {
        Random random = new Random(7);
        AgedLog x = new AgedLog();
        for (int i = 0; i < 200000; i++) {
            int a = random.nextInt(3) == 0 ? random.nextInt() : random.nextInt(300);
            int b = random.nextInt(3) == 0 ? random.nextInt() : random.nextInt(100);
            call(x, random.nextInt(30), a, b);
        }
        Check.isTrue("200000 calls have ended", true);
    }

    private static void call(AgedLog x, int which, int a, int b) {
        switch (which) {
            case 0: x.feed(a, b); break;
            case 1: x.remove(a); break;
            case 2: x.size(a); break;
            case 3: x.value(a, b); break;
            case 4: x.sync(); break;
            case 5: x.checkpoint(); break;
            case 6: x.clean(b); break;
            case 7: x.tick(a); break;
            case 8: x.cut(b, a); break;
            case 9: x.start(); break;
            case 10: x.disk(b, a); break;
            case 11: x.poke(b, a, a); break;
            case 12: x.segment(b, a); break;
            case 13: x.where(a, b); break;
            case 14: x.told(b); break;
            case 15: x.clean(8); break;
            case 16: x.feed(a, 8); break;
            default: x.put(a); break;
        }
    }
}

/** Promise 2: feed. */
public final class FeedTest {
    public static void main(String[] args) {
        takesTheLowestOctets();
        takesOneToEightOctets();
        refusesOtherLengths();
        emptiesTheHand();
        holdsAHundredAtMost();
        refusesInOrder();
        worksWhenDown();
        handStaysAtStart();
        Check.end();
    }

    /** "The n lowest octets of v, the highest first, come behind the value at hand" */
    private static void takesTheLowestOctets() {
        Run x = new Run();
        Check.due("feed of 3", x.feed(0x7F010203L, 3), 3);
        Check.due("feed of 8", x.feed(0xF1F2F3F4F5F6F7F8L, 8), 11);
        Check.due("feed of 1", x.feed(-1L, 1), 12);
        Check.due("feed of the least", x.feed(Long.MIN_VALUE, 8), 20);
        Check.due("feed of the greatest", x.feed(Long.MAX_VALUE, 8), 28);
        x.put(9);
        int[] value = {1, 2, 3, 0xF1, 0xF2, 0xF3, 0xF4, 0xF5, 0xF6, 0xF7, 0xF8, 255,
            128, 0, 0, 0, 0, 0, 0, 0, 127, 255, 255, 255, 255, 255, 255, 255};
        Check.due("size(9)", x.size(9), value.length);
        for (int i = 0; i < value.length; i++) {
            Check.due("value(9, " + i + ")", x.value(9, i), value[i]);
        }
    }

    private static void takesOneToEightOctets() {
        for (int n = 1; n <= 8; n++) {
            Run x = new Run();
            Check.due("feed(_, " + n + ")", x.feed(0x1112131415161718L, n), n);
            x.put(0);
            Check.due("size(0)", x.size(0), n);
            for (int i = 0; i < n; i++) {
                Check.due("value(0, " + i + ") of " + n, x.value(0, i), 0x18 - (n - 1 - i));
            }
        }
    }

    /** "-2 n is not 0 .. 8" */
    private static void refusesOtherLengths() {
        Run x = new Run();
        x.feed(0x0102, 2);
        int[] wrong = {-1, 9, 10, 64, 256, 264, Integer.MIN_VALUE, Integer.MAX_VALUE};
        for (int n : wrong) {
            Check.due("feed(7, " + n + ")", x.feed(7, n), -2);
        }
        Check.due("feed(_, 8)", x.feed(7, 8), 10);
        x.put(0);
        Check.due("value(0, 1): nothing came by what was refused", x.value(0, 1), 2);
        Check.due("value(0, 2)", x.value(0, 2), 0);
    }

    /** "with n = 0 it is empty: 0" */
    private static void emptiesTheHand() {
        Run x = new Run();
        Check.due("feed(5, 0) when it is empty", x.feed(5, 0), 0);
        x.feed(1, 1);
        Check.due("feed(5, 0)", x.feed(5, 0), 0);
        Check.due("feed(6, 1) then", x.feed(6, 1), 1);
        Check.hold(x, 100);
        Check.due("feed(5, 0) when it is full", x.feed(5, 0), 0);
        x.put(9);
        Check.due("size(9)", x.size(9), 0);
    }

    /** "-4 it would have more than 100" */
    private static void holdsAHundredAtMost() {
        for (int n = 1; n <= 8; n++) {
            Run x = new Run();
            Check.hold(x, 101 - n);
            Check.due("feed(_, " + n + ") to 101", x.feed(-1, n), -4);
            Check.due("feed(_, " + (n - 1) + ") behind it", x.feed(-1, n - 1), n == 1 ? 0 : 100);
        }
        Run x = new Run();
        Check.hold(x, 96);
        Check.due("feed to 101", x.feed(0, 5), -4);
        Check.due("feed to 100", x.feed(0xAABBCCDDL, 4), 100);
        Check.due("feed beyond 100", x.feed(0, 1), -4);
        Check.due("feed beyond 100", x.feed(0, 8), -4);
        x.put(0);
        Check.due("size(0)", x.size(0), 100);
        Check.due("value(0, 95)", x.value(0, 95), 96);
        Check.due("value(0, 96): nothing of the refused 5", x.value(0, 96), 0xAA);
        Check.due("value(0, 99)", x.value(0, 99), 0xDD);
    }

    private static void refusesInOrder() {
        Run x = new Run();
        Check.hold(x, 100);
        Check.due("feed(_, 9) when it is full", x.feed(0, 9), -2);
        Check.due("feed(_, -1) when it is full", x.feed(0, -1), -2);
        x.put(1);
        x.cut(1, 0);
        x.sync();
        Check.due("feed(_, 9) when down", x.feed(0, 9), -2);
        Check.hold(x, 100);
        Check.due("feed(_, 1) when down and full", x.feed(0, 1), -4);
    }

    /** "Also when the store is DOWN" */
    private static void worksWhenDown() {
        Run x = new Run();
        x.put(1);
        x.cut(1, 0);
        x.feed(0x0102, 2);
        Check.due("sync()", x.sync(), -5);
        Check.due("feed when down: what was fed before is there", x.feed(3, 1), 3);
        x.start();
        Check.due("put(4)", x.put(4), 1);
        Check.due("size(4)", x.size(4), 3);
        Check.due("value(4, 0)", x.value(4, 0), 1);
        Check.due("value(4, 2)", x.value(4, 2), 3);
        x.cut(1, 0);
        x.feed(9, 5);
        x.sync();
        Check.due("feed(_, 0) when down", x.feed(3, 0), 0);
        x.start();
        Check.due("feed(_, 1)", x.feed(3, 1), 1);
    }

    /** "the value at hand stays, here and at START" */
    private static void handStaysAtStart() {
        Run x = new Run();
        x.feed(0x0708, 2);
        x.start();
        Check.due("feed behind start()", x.feed(9, 1), 3);
        x.checkpoint();
        x.sync();
        x.start();
        x.put(5);
        Check.due("value(5, 0)", x.value(5, 0), 7);
        Check.due("value(5, 1)", x.value(5, 1), 8);
        Check.due("value(5, 2)", x.value(5, 2), 9);
        x.feed(1, 1);
        x.cut(2, 0);
        Check.due("checkpoint()", x.checkpoint(), -5);
        Check.due("feed when a checkpoint failed", x.feed(9, 1), 2);
    }
}

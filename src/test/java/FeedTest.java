/** Promise 2: feed. */
public final class FeedTest {
    public static void main(String[] args) {
        takesTheLowestOctets();
        refuses();
        worksWhenDown();
        Check.end();
    }

    private static void takesTheLowestOctets() {
        AgedLog x = new AgedLog();
        Check.due("feed of 3", x.feed(0x7F010203L, 3), 3);
        Check.due("feed of 8", x.feed(0xF1F2F3F4F5F6F7F8L, 8), 11);
        Check.due("feed of 1", x.feed(-1L, 1), 12);
        x.put(9);
        int[] value = {1, 2, 3, 0xF1, 0xF2, 0xF3, 0xF4, 0xF5, 0xF6, 0xF7, 0xF8, 255};
        for (int i = 0; i < value.length; i++) {
            Check.due("value(9, " + i + ")", x.value(9, i), value[i]);
        }
        Check.due("feed behind put", x.feed(5, 1), 1);
        Check.due("feed(_, 0)", x.feed(5, 0), 0);
        x.put(9);
        Check.due("size(9)", x.size(9), 0);
    }

    private static void refuses() {
        AgedLog x = new AgedLog();
        Check.due("feed(0, -1)", x.feed(0, -1), -2);
        Check.due("feed(0, 9)", x.feed(0, 9), -2);
        Check.due("feed(0, least)", x.feed(0, Integer.MIN_VALUE), -2);
        Check.due("feed(0, greatest)", x.feed(0, Integer.MAX_VALUE), -2);
        Check.hold(x, 96);
        Check.due("feed to 101", x.feed(0, 5), -4);
        Check.due("feed to 100", x.feed(0xAABBCCDDL, 4), 100);
        Check.due("feed beyond 100", x.feed(0, 1), -4);
        Check.due("feed beyond 100, of 9", x.feed(0, 9), -2);
        x.put(0);
        Check.due("size(0)", x.size(0), 100);
        Check.due("value(0, 95)", x.value(0, 95), 96);
        Check.due("value(0, 99)", x.value(0, 99), 0xDD);
    }

    private static void worksWhenDown() {
        AgedLog x = new AgedLog();
        x.put(1);
        x.cut(1, 0);
        x.feed(0x0102, 2);
        Check.due("sync()", x.sync(), -5);
        Check.due("feed when down", x.feed(3, 1), 3);
        Check.due("feed(0, 9) when down", x.feed(0, 9), -2);
        x.start();
        Check.due("put(4)", x.put(4), 1);
        Check.due("size(4)", x.size(4), 3);
        Check.due("value(4, 0)", x.value(4, 0), 1);
        Check.due("value(4, 2)", x.value(4, 2), 3);
    }
}

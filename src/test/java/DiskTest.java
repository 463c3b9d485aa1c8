/** Promises 13 and 14: disk and poke. */
public final class DiskTest {
    public static void main(String[] args) {
        Run x = new Run();
        int[][] none = {{-1, 0}, {64, 0}, {0, -1}, {0, 1024}, {63, 1024},
            {Integer.MIN_VALUE, 0}, {Integer.MAX_VALUE, 0}, {0, Integer.MIN_VALUE}, {0, Integer.MAX_VALUE}};
        for (int[] at : none) {
            String where = at[0] + ", " + at[1];
            Check.due("disk(" + where + ")", x.disk(at[0], at[1]), -1);
            Check.due("poke(" + where + ", 1)", x.poke(at[0], at[1], 1), -1);
            Check.due("poke(" + where + ", 256)", x.poke(at[0], at[1], 256), -1);
            Check.due("poke(" + where + ", -1)", x.poke(at[0], at[1], -1), -1);
        }
        int[][] some = {{0, 0}, {0, 1023}, {7, 5}, {8, 0}, {63, 0}, {63, 1023}};
        for (int[] at : some) {
            Check.due("poke to 165", x.poke(at[0], at[1], 0xA5), 0xA5);
            Check.due("poke to 255", x.poke(at[0], at[1], 0x5A), 255);
            Check.due("poke of 0", x.poke(at[0], at[1], 0), 255);
            int[] wrong = {256, -1, 511, Integer.MIN_VALUE, Integer.MAX_VALUE};
            for (int mask : wrong) {
                Check.due("poke(_, _, " + mask + ")", x.poke(at[0], at[1], mask), -2);
            }
            Check.due("disk", x.disk(at[0], at[1]), 255);
            Check.due("poke of 255", x.poke(at[0], at[1], 255), 0);
        }
        whenDown();
        seenAtStartOnly();
        Check.end();
    }

    private static void whenDown() {
        Run x = new Run();
        x.put(1);
        x.cut(1, 1);
        x.sync();
        Check.due("disk(8, 0) when down", x.disk(8, 0), 76);
        Check.due("poke(8, 0, 1) when down", x.poke(8, 0, 1), 77);
        Check.due("poke(8, 0, 300) when down", x.poke(8, 0, 300), -2);
        Check.due("disk(64, 0) when down", x.disk(64, 0), -1);
    }

    private static void seenAtStartOnly() {
        Run x = new Run();
        x.feed(7, 1);
        x.put(1);
        x.sync();
        x.poke(8, 22, 1);
        Check.due("value(1, 0)", x.value(1, 0), 7);
        Check.due("start()", x.start(), 0);
        Check.due("size(1)", x.size(1), -1);
        x.poke(8, 22, 1);
        Check.due("start() when it is mended", x.start(), 1);
        Check.due("value(1, 0)", x.value(1, 0), 7);
        Check.due("told(8): a poke is no SECTOR", x.told(8), 1);
    }
}

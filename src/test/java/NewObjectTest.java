/** Promise 1: an empty disk, an empty store. */
public final class NewObjectTest {
    public static void main(String[] args) {
        Run x = new Run();
        int[] told = {1, 0, 0, 0, 56, 0, 0, 0, 0, 0};
        for (int what = 0; what < told.length; what++) {
            Check.due("told(" + what + ")", x.told(what), told[what]);
        }
        for (int segment = 0; segment < 64; segment++) {
            for (int i = 0; i < 1024; i++) {
                Check.due("disk(" + segment + ", " + i + ")", x.disk(segment, i), 0);
            }
        }
        for (int key = 0; key < 300; key++) {
            Check.due("size(" + key + ")", x.size(key), -1);
        }
        for (int segment = 8; segment < 64; segment++) {
            for (int what = 0; what < 4; what++) {
                Check.due("segment(" + segment + ", " + what + ")", x.segment(segment, what), 0);
            }
        }
        Check.due("put(0) with nothing fed", x.put(0), 1);
        Check.due("size(0)", x.size(0), 0);
        twoObjectsShareNothing();
        Check.end();
    }

    private static void twoObjectsShareNothing() {
        Run x = new Run();
        x.feed(7, 1);
        x.put(3);
        x.sync();
        Run y = new Run();
        Check.due("size(3) of another", y.size(3), -1);
        Check.due("disk(8, 0) of another", y.disk(8, 0), 0);
        Check.due("told(8) of another", y.told(8), 0);
    }
}

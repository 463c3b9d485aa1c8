import java.util.ArrayList;
import java.util.List;

/** The class and the model side by side: each call goes to both, and their answers must agree. */
final class Both {
    final Run program = new Run();
    final Model model = new Model();
    final List<String> calls = new ArrayList<>();
    int wrong = 0;
    /** How often an answer below 0 came: at 5 those of -5. */
    final int[] refusals = new int[6];

    private int same(String call, int got, int want) {
        if (wrong == 0 || got != want) {
            calls.add(call + " = " + got);
        }
        if (got < 0 && got > -6) {
            refusals[-got]++;
        }
        if (got != want) {
            wrong++;
            System.out.println(call + " answered " + got + ", the model says " + want);
        }
        return got;
    }

    int feed(long v, int n) {
        return same("feed(" + v + "L, " + n + ")", program.feed(v, n), model.feed(v, n));
    }

    int put(int key) {
        return same("put(" + key + ")", program.put(key), model.put(key));
    }

    int remove(int key) {
        return same("remove(" + key + ")", program.remove(key), model.remove(key));
    }

    int size(int key) {
        return same("size(" + key + ")", program.size(key), model.size(key));
    }

    int value(int key, int i) {
        return same("value(" + key + ", " + i + ")", program.value(key, i), model.value(key, i));
    }

    int sync() {
        return same("sync()", program.sync(), model.sync());
    }

    int checkpoint() {
        return same("checkpoint()", program.checkpoint(), model.checkpoint());
    }

    int clean(int n) {
        return same("clean(" + n + ")", program.clean(n), model.clean(n));
    }

    int tick(int n) {
        return same("tick(" + n + ")", program.tick(n), model.tick(n));
    }

    int cut(int n, int t) {
        return same("cut(" + n + ", " + t + ")", program.cut(n, t), model.cut(n, t));
    }

    int start() {
        return same("start()", program.start(), model.start());
    }

    int disk(int segment, int i) {
        return same("disk(" + segment + ", " + i + ")", program.disk(segment, i), model.disk(segment, i));
    }

    int poke(int segment, int i, int mask) {
        return same("poke(" + segment + ", " + i + ", " + mask + ")",
            program.poke(segment, i, mask), model.poke(segment, i, mask));
    }

    int segment(int segment, int what) {
        return same("segment(" + segment + ", " + what + ")",
            program.segment(segment, what), model.segment(segment, what));
    }

    int where(int key, int what) {
        return same("where(" + key + ", " + what + ")", program.where(key, what), model.where(key, what));
    }

    int told(int what) {
        return same("told(" + what + ")", program.told(what), model.told(what));
    }

    /** Sets an octet of the disk, by an address that goes through all segments. */
    void set(int address, int octet) {
        int is = program.disk(address / 1024, address % 1024);
        if (is != octet) {
            poke(address / 1024, address % 1024, is ^ octet);
        }
    }

    void setNumber(int address, int width, int number) {
        for (int i = 0; i < width; i++) {
            set(address + i, number >>> 8 * (width - 1 - i) & 255);
        }
    }

    /** Sets the SUM that is right for so many octets behind them. */
    void setSum(int address, int length) {
        int[] octets = new int[length];
        for (int i = 0; i < length; i++) {
            octets[i] = program.disk((address + i) / 1024, (address + i) % 1024);
        }
        setNumber(address + length, 4, Model.sum(octets));
    }

    /** Looks at everything that can be asked, without writing the calls down. */
    void compareAll() {
        int mark = calls.size();
        for (int what = -1; what <= 10; what++) {
            told(what);
        }
        for (int segment = 7; segment <= 64; segment++) {
            for (int what = 0; what <= 4; what++) {
                segment(segment, what);
            }
        }
        for (int key = -1; key <= 300; key++) {
            // A key without a value is looked at once: nearly all of them have none.
            int size = size(key);
            for (int what = 0; what <= 4 && size >= 0; what++) {
                where(key, what);
            }
            for (int i = -1; i <= size; i++) {
                value(key, i);
            }
        }
        calls.subList(mark, calls.size()).clear();
    }

    /**
     * Each look has its price, as objects are used for few calls: some 6000 are spent on the
     * segments in which something stands, from an octet on that the caller draws.
     */
    void compareDisk(int from) {
        int standing = 0;
        for (int segment = 0; segment < 64; segment++) {
            standing += model.isClear(segment) ? 0 : 1;
        }
        int step = 1 + standing / 6;
        for (int segment = 0; segment < 64; segment++) {
            int stride = model.isClear(segment) ? 61 : step;
            for (int i = from % stride; i < 1024; i += stride) {
                int got = program.disk(segment, i);
                int want = model.disk(segment, i);
                if (got != want) {
                    same("disk(" + segment + ", " + i + ")", got, want);
                }
            }
        }
    }
}

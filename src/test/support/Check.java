/** What the tests share: answers that are due, values of a length, and disks that are forged. */
final class Check {
    private static int wrong = 0;
    private static int looked = 0;

    private Check() {
    }

    static void due(String what, long got, long want) {
        looked++;
        if (got != want) {
            wrong++;
            System.out.println(what + " answered " + got + ", due is " + want);
        }
    }

    static void isTrue(String what, boolean is) {
        due(what, is ? 1 : 0, 1);
    }

    static void end() {
        System.out.println(looked + " answers looked at, " + wrong + " not as due");
        if (wrong != 0) {
            System.exit(1);
        }
    }

    /** The value at hand becomes 1, 2, 3 .. */
    static void hold(Run x, int length) {
        x.feed(0, 0);
        feedUpTo(x, length);
    }

    private static void feedUpTo(Run x, int length) {
        for (int i = 0; i < length; i += 8) {
            int n = Math.min(8, length - i);
            long v = 0;
            for (int k = 1; k <= n; k++) {
                v = v << 8 | i + k;
            }
            x.feed(v, n);
        }
    }

    static int put(Run x, int key, int length) {
        hold(x, length);
        return x.put(key);
    }

    /** Puts a key again and again with a value of 100 octets: 8 such records fill a segment. */
    static void putMany(Run x, int key, int times) {
        x.feed(0, 0);
        for (int i = 0; i < times; i++) {
            feedUpTo(x, 100);
            x.put(key);
        }
    }

    /** Puts of empty values, 16 octets each, bring the PLACE of the OPEN segment there. */
    static void fillTo(Run x, int key, int place) {
        if (x.told(3) == 0) {
            x.put(key);
        }
        int over = (place - x.told(3)) % 16;
        if (over > 0) {
            put(x, key, over);
        }
        while (x.told(3) < place) {
            x.put(key);
        }
        due("told(3) when it is filled", x.told(3), place);
    }

    /**
     * The keys 0 to 63 live in one full segment and one record of the OPEN one, so that each
     * CLEANING takes a FREE segment and makes one SPENT: till so many are FREE. The PLACE is 26.
     */
    static void crowd(Run x, int free) {
        for (int key = 0; key < 64; key++) {
            x.put(key);
        }
        while (x.told(4) > free) {
            x.clean(1);
        }
        due("told(4) in the crowd", x.told(4), free);
    }

    /** All that can be looked at, in one text. */
    static String snapshot(Run x) {
        StringBuilder text = new StringBuilder();
        for (int what = 0; what < 10; what++) {
            text.append(" told ").append(x.told(what));
        }
        for (int segment = 8; segment < 64; segment++) {
            for (int what = 0; what < 4; what++) {
                text.append(" segment ").append(x.segment(segment, what));
            }
        }
        for (int key = 0; key < 300; key++) {
            int size = x.size(key);
            text.append(" size ").append(size);
            for (int what = 0; what < 4 && size >= 0; what++) {
                text.append(" where ").append(x.where(key, what));
            }
            for (int i = 0; i < size; i++) {
                text.append(' ').append(x.value(key, i));
            }
        }
        for (int address = 0; address < 65536; address++) {
            text.append(' ').append(x.disk(address / 1024, address % 1024));
        }
        return text.toString();
    }

    static int number(Run x, int segment, int at, int width) {
        int number = 0;
        for (int i = 0; i < width; i++) {
            int address = segment * 1024 + at + i;
            number = number << 8 | x.disk(address / 1024, address % 1024);
        }
        return number;
    }

    static void setNumber(Run x, int segment, int at, int width, int number) {
        for (int i = 0; i < width; i++) {
            int address = segment * 1024 + at + i;
            int mask = (number >>> 8 * (width - 1 - i) & 255) ^ x.disk(address / 1024, address % 1024);
            if (mask != 0) {
                x.poke(address / 1024, address % 1024, mask);
            }
        }
    }

    static int sum(Run x, int segment, int at, int length) {
        int s = 0;
        for (int i = 0; i < length; i++) {
            int address = segment * 1024 + at + i;
            s ^= x.disk(address / 1024, address % 1024);
            s = (s << 5 | s >>> 27) * 0x9E3779B1;
        }
        return s;
    }

    static void setSum(Run x, int segment, int at, int length) {
        setNumber(x, segment, at + length, 4, sum(x, segment, at, length));
    }

    /** A record on the disk whose SUM is right and whose value is 0s. */
    static void forgeRecord(Run x, int segment, int at, int[] kindKeyLengthSequenceTime) {
        int[] f = kindKeyLengthSequenceTime;
        setNumber(x, segment, at, 1, f[0]);
        setNumber(x, segment, at + 1, 2, f[1]);
        setNumber(x, segment, at + 3, 1, f[2]);
        setNumber(x, segment, at + 4, 4, f[3]);
        setNumber(x, segment, at + 8, 4, f[4]);
        for (int i = 0; i < f[2]; i++) {
            setNumber(x, segment, at + 12 + i, 1, 0);
        }
        setSum(x, segment, at, 12 + f[2]);
    }

    static void forgeHead(Run x, int segment, int order) {
        setNumber(x, segment, 0, 1, 76);
        setNumber(x, segment, 1, 1, 71);
        setNumber(x, segment, 2, 4, order);
        setSum(x, segment, 0, 6);
    }

    /** A field of a checkpoint is set, and its SUM set right again. */
    static void forgeRegion(Run x, int region, int at, int width, int number) {
        setNumber(x, region * 4, at, width, number);
        setSum(x, region * 4, 0, 23 + 5 * number(x, region * 4, 21, 2) + 56);
    }
}

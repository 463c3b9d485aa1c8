/** What the tests share: answers that are due, values of a length, and disks that are forged. */
final class Check {
    private static int wrong = 0;
    private static int looked = 0;

    private Check() {
    }

    static void due(String what, long got, long want) {
        looked++;
        if (got != want) {
            wrong++;
            System.out.println(what + " answered " + got + ", due is " + want);
        }
    }

    static void end() {
        System.out.println(looked + " answers looked at, " + wrong + " not as due");
        if (wrong != 0) {
            System.exit(1);
        }
    }

    /** The value at hand becomes 1, 2, 3 .. */
    static void hold(AgedLog x, int length) {
        x.feed(0, 0);
        for (int i = 1; i <= length; i++) {
            x.feed(i, 1);
        }
    }

    static int put(AgedLog x, int key, int length) {
        hold(x, length);
        return x.put(key);
    }

    /** Puts a key again and again with a value of 100 octets: 8 such records fill a segment. */
    static void putMany(AgedLog x, int key, int times) {
        for (int i = 0; i < times; i++) {
            put(x, key, 100);
        }
    }

    static int number(AgedLog x, int segment, int at, int width) {
        int number = 0;
        for (int i = 0; i < width; i++) {
            int address = segment * 1024 + at + i;
            number = number << 8 | x.disk(address / 1024, address % 1024);
        }
        return number;
    }

    static void setNumber(AgedLog x, int segment, int at, int width, int number) {
        for (int i = 0; i < width; i++) {
            int address = segment * 1024 + at + i;
            int octet = number >>> 8 * (width - 1 - i) & 255;
            x.poke(address / 1024, address % 1024, octet ^ x.disk(address / 1024, address % 1024));
        }
    }

    static int sum(AgedLog x, int segment, int at, int length) {
        int s = 0;
        for (int i = 0; i < length; i++) {
            int address = segment * 1024 + at + i;
            s ^= x.disk(address / 1024, address % 1024);
            s = (s << 5 | s >>> 27) * 0x9E3779B1;
        }
        return s;
    }

    static void setSum(AgedLog x, int segment, int at, int length) {
        setNumber(x, segment, at + length, 4, sum(x, segment, at, length));
    }

    /** A record on the disk whose SUM is right and whose value is 0s. */
    static void forgeRecord(AgedLog x, int segment, int at, int[] kindKeyLengthSequenceTime) {
        int[] f = kindKeyLengthSequenceTime;
        setNumber(x, segment, at, 1, f[0]);
        setNumber(x, segment, at + 1, 2, f[1]);
        setNumber(x, segment, at + 3, 1, f[2]);
        setNumber(x, segment, at + 4, 4, f[3]);
        setNumber(x, segment, at + 8, 4, f[4]);
        for (int i = 0; i < f[2]; i++) {
            setNumber(x, segment, at + 12 + i, 1, 0);
        }
        setSum(x, segment, at, 12 + f[2]);
    }

    static void forgeHead(AgedLog x, int segment, int order) {
        setNumber(x, segment, 0, 1, 76);
        setNumber(x, segment, 1, 1, 71);
        setNumber(x, segment, 2, 4, order);
        setSum(x, segment, 0, 6);
    }

    /** A field of a checkpoint is set, and its SUM set right again. */
    static void forgeRegion(AgedLog x, int region, int at, int width, int number) {
        setNumber(x, region * 4, at, width, number);
        setSum(x, region * 4, 0, 23 + 5 * number(x, region * 4, 21, 2) + 56);
    }
}

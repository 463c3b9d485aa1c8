import java.util.Random;

/** Runs of calls drawn from seeds, on the class and on the model of the document. */
public final class ModelTest {
    private static final int RUNS = 800;
    private static final int HELD_BACK = 110;

    private final Both both = new Both();
    private final Random random;
    private final int keys;
    private final int valueMode;
    private final int[] weights;

    private ModelTest(int seed) {
        random = new Random(seed);
        keys = new int[] {3, 9, 40, 300}[random.nextInt(4)];
        valueMode = random.nextInt(6);
        weights = new int[] {40, 6, 3, 5, 3, 3, 3, 2, 2, 2, 2};
        for (int i = 1; i < weights.length; i++) {
            weights[i] = random.nextInt(2 * weights[i] + 1);
        }
    }

    public static void main(String[] args) {
        int[] refusals = new int[6];
        for (int seed = 1; seed <= RUNS; seed++) {
            ModelTest test = new ModelTest(seed);
            boolean right = test.run();
            for (int i = 0; i < refusals.length; i++) {
                refusals[i] += test.both.refusals[i];
            }
            if (!right) {
                System.out.println("seed " + seed + " went wrong, the last calls were");
                int size = test.both.calls.size();
                test.both.calls.subList(Math.max(0, size - 60), size).forEach(System.out::println);
                System.exit(1);
            }
        }
        for (int i = 1; i < refusals.length; i++) {
            if (refusals[i] == 0) {
                System.out.println("no run came to an answer of -" + i);
                System.exit(1);
            }
        }
        System.out.println(RUNS + " runs agree with the model");
    }

    /** Each step makes fewer calls than are held back, so that no run goes beyond the 512th call. */
    private boolean run() {
        int nextLook = random.nextInt(200);
        if (random.nextInt(3) == 0) {
            crowd();
        }
        while (both.program.left() > HELD_BACK && both.wrong == 0) {
            step();
            if (Run.MOST_CALLS - both.program.left() > nextLook) {
                both.compareAll();
                nextLook += 100 + random.nextInt(200);
            }
        }
        both.start();
        both.compareAll();
        both.compareDisk(random.nextInt(1000));
        return both.wrong == 0;
    }

    /** Many small records, and CLEANINGS that leave few segments FREE. */
    private void crowd() {
        int puts = 40 + random.nextInt(110);
        for (int i = 0; i < puts; i++) {
            both.put(random.nextInt(8) == 0 ? random.nextInt(keys) : i % 300);
            if (random.nextInt(20) == 0) {
                both.tick(random.nextInt(3));
            }
        }
        int n = 1 + random.nextInt(3);
        int left = random.nextInt(4);
        for (int i = 0; i < 60 && both.program.told(4) > left; i++) {
            both.clean(random.nextInt(4) == 0 ? 1 : n);
        }
        for (int i = random.nextInt(4); i > 0; i--) {
            both.clean(1 + random.nextInt(8));
        }
    }

    private int pick() {
        int all = 0;
        for (int weight : weights) {
            all += weight;
        }
        int at = random.nextInt(all);
        int i = 0;
        while (at >= weights[i]) {
            at -= weights[i];
            i++;
        }
        return i;
    }

    private void step() {
        if (both.program.told(9) == 1 && random.nextInt(4) > 0) {
            if (random.nextInt(3) == 0) {
                disturb();
            }
            both.start();
            return;
        }
        switch (pick()) {
            case 0:
                putOne();
                break;
            case 1:
                both.remove(random.nextInt(keys));
                break;
            case 2:
                both.sync();
                break;
            case 3:
                both.tick(random.nextInt(4) == 0 ? random.nextInt(100001) : random.nextInt(5));
                break;
            case 4:
                both.clean(1 + random.nextInt(8));
                break;
            case 5:
                both.checkpoint();
                break;
            case 6:
                cutSoon();
                break;
            case 7:
                disturb();
                break;
            case 8:
                forge();
                break;
            case 9:
                callWithAnything();
                break;
            default:
                both.start();
                break;
        }
    }

    private int anything() {
        return one(Integer.MIN_VALUE, -65536, -1025, -2, -1, 0, 1, 7, 8, 9, 10, 31, 32, 63, 64, 65, 100, 255,
            256, 299, 300, 1023, 1024, 10000, 10001, 65535, 65536, 100000, 100001, Integer.MAX_VALUE);
    }

    private void callWithAnything() {
        switch (random.nextInt(13)) {
            case 0:
                both.feed(random.nextLong(), anything());
                break;
            case 1:
                both.put(anything());
                break;
            case 2:
                both.remove(anything());
                break;
            case 3:
                both.size(anything());
                break;
            case 4:
                both.value(anything(), anything());
                break;
            case 5:
                both.clean(anything());
                break;
            case 6:
                both.tick(anything());
                break;
            case 7:
                both.cut(anything(), anything());
                break;
            case 8:
                both.disk(anything(), anything());
                break;
            case 9:
                both.poke(anything(), anything(), anything());
                break;
            case 10:
                both.segment(anything(), anything());
                break;
            case 11:
                both.where(anything(), anything());
                break;
            default:
                both.told(anything());
                break;
        }
    }

    private void putOne() {
        int length = valueLength();
        if (both.model.hasAValueAtHand() || random.nextInt(20) == 0) {
            both.feed(0, 0);
        }
        while (length > 0) {
            int n = Math.min(length, 8);
            both.feed(random.nextLong(), n);
            length -= n;
        }
        both.put(random.nextInt(keys));
        if (random.nextInt(200) == 0) {
            both.feed(random.nextLong(), random.nextInt(11) - 1);
            both.put(random.nextInt(400) - 50);
        }
    }

    private int valueLength() {
        int mode = valueMode == 4 ? random.nextInt(6) : valueMode;
        int place = Math.max(10, both.program.told(3));
        switch (mode) {
            case 0:
                return random.nextInt(4);
            case 1:
                return random.nextInt(101);
            case 2:
                return 100;
            case 4:
                return random.nextInt(8) == 0 ? 8 : 0;
            case 5:
                return random.nextInt(3) == 0 ? 16 : 8;
            default:
                int toSectorsEnd = Math.floorMod(-(place + 16), 64);
                return toSectorsEnd + (toSectorsEnd < 37 && random.nextBoolean() ? 64 : 0);
        }
    }

    private void cutSoon() {
        both.cut(random.nextInt(random.nextBoolean() ? 4 : 30), random.nextInt(64));
        for (int i = random.nextInt(4); i > 0; i--) {
            putOne();
        }
        if (random.nextBoolean()) {
            both.sync();
        } else {
            both.checkpoint();
        }
    }

    /** Pokes somewhere where it may matter, starts at times, and mends it at times. */
    private void disturb() {
        int segment = 8 + random.nextInt(4);
        int i = random.nextInt(random.nextBoolean() ? 30 : 1024);
        if (random.nextInt(3) == 0) {
            segment = 4 * random.nextInt(2);
            i = random.nextInt(130);
        }
        int mask = 1 << random.nextInt(8);
        both.poke(segment, i, mask);
        if (random.nextBoolean()) {
            both.start();
        }
        if (random.nextBoolean()) {
            both.poke(segment, i, mask);
        }
    }

    private void forge() {
        switch (random.nextInt(4)) {
            case 0:
                forgeRegion();
                break;
            case 1:
                forgeRecord(Math.max(8, both.program.told(2)), Math.max(10, both.program.told(3)));
                break;
            case 2:
                forgeSegment(8 + random.nextInt(56));
                break;
            default:
                forgeFull();
                break;
        }
        both.start();
        both.compareAll();
    }

    private int one(int... of) {
        return of[random.nextInt(of.length)];
    }

    private void forgeRegion() {
        int base = 4096 * random.nextInt(2);
        if (both.program.disk(base / 1024, 0) != 67) {
            both.checkpoint();
        }
        int count = both.program.disk(base / 1024, 21) * 256 + both.program.disk(base / 1024, 22);
        int entry = base + 23 + 5 * random.nextInt(Math.max(1, Math.min(count, 300)));
        int flags = base + 23 + 5 * Math.min(count, 300);
        int most = Integer.MAX_VALUE;
        switch (random.nextInt(13)) {
            case 0:
                both.setNumber(base + 2, 4, one(-1, 0, 1, 2, 3, most));
                break;
            case 1:
                both.setNumber(base + 6, 4, one(-1, 0, 1, 2, most));
                break;
            case 2:
                both.setNumber(base + 10, 4, one(-1, 0, 1, most));
                break;
            case 3:
                both.set(base + 14, one(0, 7, 8, 9, 63, 64));
                break;
            case 4:
                both.setNumber(base + 15, 2, one(0, 9, 10, 26, 1023, 1024, 1025));
                break;
            case 5:
                both.setNumber(base + 17, 4, one(-1, 0, 1, 2, most));
                break;
            case 6:
                both.set(base + 14, 0);
                both.setNumber(base + 15, 2, one(0, 1));
                break;
            case 7:
                both.setNumber(base + 21, 2, one(0, count + 1, count - 1, 299, 300, 301, 65535) & 65535);
                break;
            case 8:
                both.setNumber(entry, 2, one(0, 1, 5, 299, 300, 65535));
                break;
            case 9:
                both.set(entry + 2, one(0, 7, 8, 9, 63, 64));
                break;
            case 10:
                both.setNumber(entry + 3, 2, one(9, 10, 26, 1008, 1009));
                break;
            case 11:
                both.set(flags + random.nextInt(56), one(0, 1, 2, 255));
                break;
            default:
                both.set(base + random.nextInt(2), one(67, 80, 0));
                break;
        }
        count = both.program.disk(base / 1024, 21) * 256 + both.program.disk(base / 1024, 22);
        if (count <= 310) {
            both.setSum(base, 23 + 5 * count + 56);
        }
    }

    private void forgeRecord(int segment, int place) {
        int n = one(0, 0, 3, 99, 100, 101, 255, Math.max(0, 1008 - place));
        if (n > 255 || place + 16 + n > 1026 || segment == 63) {
            return;
        }
        int base = segment * 1024 + place;
        both.set(base, one(0, 1, 1, 1, 2, 2, 3));
        both.setNumber(base + 1, 2, one(0, 1, 2, 299, 300));
        both.set(base + 3, n);
        both.setNumber(base + 4, 4, both.program.told(0) + one(0, 0, 0, 1, -1));
        both.setNumber(base + 8, 4, both.program.told(1) + one(0, 1, -1, 1000, Integer.MIN_VALUE));
        both.setSum(base, 12 + n);
    }

    private void forgeSegment(int segment) {
        int base = segment * 1024;
        int open = both.program.told(2);
        int order = open == 0 ? 0 : both.program.segment(open, 3);
        both.set(base, one(76, 76, 76, 75));
        both.set(base + 1, one(71, 71, 71, 70));
        both.setNumber(base + 2, 4, order + one(1, 1, 1, 2, 0));
        if (random.nextInt(5) > 0) {
            both.setSum(base, 6);
        }
        forgeRecord(segment, 10);
    }

    /** A checkpoint that tells that nearly all segments are USED. */
    private void forgeFull() {
        both.start();
        if (both.checkpoint() < 1) {
            return;
        }
        int base = both.program.told(7) % 2 == 1 ? 0 : 4096;
        if (both.program.disk(base / 1024, 5) != (both.program.told(7) & 255)) {
            base = 4096 - base;
        }
        int count = both.program.told(5);
        int free = random.nextInt(5);
        for (int i = 0; i < 56; i++) {
            int flag = base + 23 + 5 * count + i;
            if (both.program.disk(flag / 1024, flag % 1024) == 0) {
                both.set(flag, free > 0 ? 0 : 1);
                free--;
            }
        }
        both.setSum(base, 23 + 5 * count + 56);
    }
}

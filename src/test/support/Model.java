import java.math.BigInteger;
import java.util.ArrayList;
import java.util.Arrays;
import java.util.Comparator;
import java.util.List;
import java.util.TreeMap;
import java.util.TreeSet;

/**
 * The document once more, written as plainly as it goes and apart from the class: records are
 * objects, every octet has its own marks, fractions are big numbers. ModelTest holds the class
 * against it.
 */
final class Model {
    private static final class PowerWent extends RuntimeException {
        private static final long serialVersionUID = 1L;
    }

    private static final class Rec {
        int kind;
        int key;
        int sequence;
        int time;
        int[] value = new int[0];
        int segment;
        int place;

        int length() {
            return 16 + value.length;
        }

        int[] octets() {
            Row row = new Row();
            row.add(kind, 1);
            row.add(key, 2);
            row.add(value.length, 1);
            row.add(sequence, 4);
            row.add(time, 4);
            for (int octet : value) {
                row.add(octet, 1);
            }
            row.addSum();
            return row.toArray();
        }
    }

    private static final class Row {
        private final List<Integer> octets = new ArrayList<>();

        void add(int number, int width) {
            for (int i = width - 1; i >= 0; i--) {
                octets.add(number >>> 8 * i & 255);
            }
        }

        void addSum() {
            add(sum(toArray()), 4);
        }

        int[] toArray() {
            return octets.stream().mapToInt(Integer::intValue).toArray();
        }
    }

    private static final class Checkpoint {
        int region;
        int number;
        int sequence;
        int clock;
        int open;
        int place;
        int order;
        final TreeMap<Integer, int[]> leads = new TreeMap<>();
        final TreeSet<Integer> used = new TreeSet<>();
    }

    private final int[][] disk = new int[64][1024];
    private final boolean[][] torn = new boolean[64][1024];
    private int written;
    private int cutSectors;
    private int cutOctets;
    private boolean down;
    private final List<Integer> hand = new ArrayList<>();

    private int[][] memory;
    private boolean[][] came;
    private List<Integer> opened;
    private List<List<Rec>> records;
    private TreeMap<Integer, Rec> index;
    private TreeSet<Integer> used;
    private TreeSet<Integer> spent;
    private int open;
    private int place;
    private int order;
    private int sequence;
    private int clock;
    private int number;
    private int turn;

    Model() {
        asAtFirst();
    }

    static int sum(int[] octets) {
        int s = 0;
        for (int b : octets) {
            s ^= b;
            s = (s << 5 | s >>> 27) * 0x9E3779B1;
        }
        return s;
    }

    private void asAtFirst() {
        memory = new int[64][1024];
        came = new boolean[64][1024];
        opened = new ArrayList<>();
        records = new ArrayList<>();
        for (int i = 0; i < 64; i++) {
            records.add(new ArrayList<>());
        }
        index = new TreeMap<>();
        used = new TreeSet<>();
        spent = new TreeSet<>();
        open = 0;
        place = 0;
        order = 0;
        sequence = 1;
        clock = 0;
        number = 0;
        turn = 0;
    }

    int feed(long v, int n) {
        if (n < 0 || n > 8) {
            return -2;
        }
        if (n == 0) {
            hand.clear();
            return 0;
        }
        if (hand.size() + n > 100) {
            return -4;
        }
        for (int i = n - 1; i >= 0; i--) {
            hand.add((int) (v >>> 8 * i & 255));
        }
        return hand.size();
    }

    private int free() {
        return 56 - used.size() - spent.size();
    }

    private boolean wouldOpen(Rec rec) {
        return open == 0 || place + rec.length() > 1024;
    }

    private void come(Rec rec) {
        if (wouldOpen(rec)) {
            int segment = 8;
            while (used.contains(segment) || spent.contains(segment)) {
                segment++;
            }
            used.add(segment);
            opened.remove((Integer) segment);
            opened.add(segment);
            open = segment;
            order++;
            Row head = new Row();
            head.add(76, 1);
            head.add(71, 1);
            head.add(order, 4);
            head.addSum();
            memory[segment] = new int[1024];
            records.get(segment).clear();
            place = 0;
            arrive(head.toArray());
        }
        rec.sequence = sequence++;
        rec.segment = open;
        rec.place = place;
        arrive(rec.octets());
        records.get(open).add(rec);
        if (rec.kind == 1) {
            index.put(rec.key, rec);
        } else {
            index.remove(rec.key);
        }
    }

    private void arrive(int[] octets) {
        for (int octet : octets) {
            memory[open][place] = octet;
            came[open][place] = true;
            place++;
        }
    }

    int put(int key) {
        if (down) {
            return -3;
        }
        if (key < 0 || key > 299) {
            return -2;
        }
        Rec rec = new Rec();
        rec.kind = 1;
        rec.key = key;
        rec.time = clock;
        rec.value = hand.stream().mapToInt(Integer::intValue).toArray();
        if (wouldOpen(rec) && free() <= 2) {
            return -4;
        }
        come(rec);
        hand.clear();
        return rec.sequence;
    }

    int remove(int key) {
        if (down) {
            return -3;
        }
        if (!index.containsKey(key)) {
            return -1;
        }
        Rec rec = new Rec();
        rec.kind = 2;
        rec.key = key;
        rec.time = clock;
        if (wouldOpen(rec) && free() <= 2) {
            return -4;
        }
        come(rec);
        return rec.sequence;
    }

    int size(int key) {
        if (down) {
            return -3;
        }
        return index.containsKey(key) ? index.get(key).value.length : -1;
    }

    int value(int key, int i) {
        if (down) {
            return -3;
        }
        if (!index.containsKey(key) || i < 0 || i >= index.get(key).value.length) {
            return -1;
        }
        return index.get(key).value[i];
    }

    private void writeSector(int segment, int sector, int[] octets, int firstThatCame) {
        int from = sector * 64;
        if (cutSectors > 0 && --cutSectors == 0) {
            for (int i = 0; i < 64; i++) {
                if (i < cutOctets) {
                    disk[segment][from + i] = octets[i];
                } else if (i >= firstThatCame) {
                    torn[segment][from + i] = true;
                }
            }
            throw new PowerWent();
        }
        for (int i = 0; i < 64; i++) {
            disk[segment][from + i] = octets[i];
            torn[segment][from + i] = false;
        }
        written++;
    }

    private int writeWhatCame() {
        int before = written;
        for (int segment : opened) {
            int end = 1024;
            while (end > 0 && !came[segment][end - 1]) {
                end--;
            }
            if (end == 0) {
                continue;
            }
            if (end % 64 == 0 && end != 1024) {
                writeSector(segment, end / 64, new int[64], 0);
            }
            for (int sector = 0; sector < 16; sector++) {
                int first = 0;
                while (first < 64 && !came[segment][sector * 64 + first]) {
                    first++;
                }
                if (first < 64) {
                    int[] octets = new int[64];
                    for (int i = 0; i < 64 && sector * 64 + i < end; i++) {
                        octets[i] = memory[segment][sector * 64 + i];
                    }
                    writeSector(segment, sector, octets, first);
                }
            }
        }
        came = new boolean[64][1024];
        return written - before;
    }

    int sync() {
        if (down) {
            return -3;
        }
        try {
            return writeWhatCame();
        } catch (PowerWent e) {
            down = true;
            return -5;
        }
    }

    int checkpoint() {
        if (down) {
            return -3;
        }
        try {
            writeWhatCame();
            writeCheckpoint();
        } catch (PowerWent e) {
            down = true;
            return -5;
        }
        number++;
        turn = 1 - turn;
        spent.clear();
        return number;
    }

    private void writeCheckpoint() {
        Row row = new Row();
        row.add(67, 1);
        row.add(80, 1);
        row.add(number + 1, 4);
        row.add(sequence, 4);
        row.add(clock, 4);
        row.add(open, 1);
        row.add(place, 2);
        row.add(order, 4);
        row.add(index.size(), 2);
        for (Rec rec : index.values()) {
            row.add(rec.key, 2);
            row.add(rec.segment, 1);
            row.add(rec.place, 2);
        }
        for (int segment = 8; segment < 64; segment++) {
            row.add(used.contains(segment) ? 1 : 0, 1);
        }
        row.addSum();
        int[] octets = row.toArray();
        int sectors = (octets.length + 63) / 64;
        octets = Arrays.copyOf(octets, sectors * 64);
        for (int i = 0; i < sectors; i++) {
            int[] sector = Arrays.copyOfRange(octets, i * 64, i * 64 + 64);
            writeSector(turn * 4 + i / 16, i % 16, sector, 0);
        }
    }

    private int live(int segment) {
        return index.values().stream().filter(r -> r.segment == segment).mapToInt(Rec::length).sum();
    }

    private int latest(int segment) {
        return records.get(segment).stream().mapToInt(r -> r.time).max().orElse(0);
    }

    private int compareWorth(int one, int other) {
        BigInteger left = BigInteger.valueOf(1024 - live(one))
            .multiply(BigInteger.valueOf(clock + 1L - latest(one)))
            .multiply(BigInteger.valueOf(1024 + live(other)));
        BigInteger right = BigInteger.valueOf(1024 - live(other))
            .multiply(BigInteger.valueOf(clock + 1L - latest(other)))
            .multiply(BigInteger.valueOf(1024 + live(one)));
        return left.compareTo(right);
    }

    int clean(int n) {
        if (down) {
            return -3;
        }
        if (n < 1 || n > 8) {
            return -2;
        }
        List<Integer> chosen = new ArrayList<>(used);
        chosen.remove((Integer) open);
        chosen.sort((a, b) -> compareWorth(a, b) != 0 ? compareWorth(b, a) : Integer.compare(a, b));
        chosen = chosen.subList(0, Math.min(n, chosen.size()));
        List<Rec> live = new ArrayList<>();
        for (Rec rec : index.values()) {
            if (chosen.contains(rec.segment)) {
                live.add(rec);
            }
        }
        live.sort(Comparator.<Rec>comparingInt(r -> r.time).thenComparingInt(r -> r.sequence));
        int wanted = 0;
        int at = open == 0 ? 1024 : place;
        for (Rec rec : live) {
            if (at + rec.length() > 1024) {
                wanted++;
                at = 10;
            }
            at += rec.length();
        }
        if (wanted > free()) {
            return -4;
        }
        for (Rec rec : live) {
            Rec again = new Rec();
            again.kind = 1;
            again.key = rec.key;
            again.time = rec.time;
            again.value = rec.value;
            come(again);
        }
        used.removeAll(chosen);
        spent.addAll(chosen);
        return chosen.size();
    }

    int tick(int n) {
        if (down) {
            return -3;
        }
        if (n < 0 || n > 100000) {
            return -2;
        }
        clock += n;
        return clock;
    }

    int cut(int n, int t) {
        if (down) {
            return -3;
        }
        if (n < 0 || n > 10000 || t < 0 || t > 63) {
            return -2;
        }
        cutSectors = n;
        cutOctets = t;
        return 1;
    }

    int start() {
        cutSectors = 0;
        down = false;
        asAtFirst();
        Checkpoint one = read(0);
        Checkpoint other = read(1);
        Checkpoint counts = one;
        if (one == null || other != null && other.number > one.number) {
            counts = other;
        }
        if (counts != null) {
            take(counts);
        }
        int count = 0;
        while (true) {
            Rec rec = open == 0 ? null : standing(open, place);
            if (rec == null || rec.sequence != sequence) {
                rec = openFollowing();
            }
            if (rec == null) {
                break;
            }
            if (rec.kind == 1) {
                index.put(rec.key, rec);
            } else {
                index.remove(rec.key);
            }
            sequence++;
            place += rec.length();
            clock = Math.max(clock, rec.time);
            count++;
        }
        takeMemory();
        return count;
    }

    private Rec openFollowing() {
        for (int segment = 8; segment < 64; segment++) {
            int[] head = Arrays.copyOf(disk[segment], 6);
            if (used.contains(segment) || head[0] != 76 || head[1] != 71
                || get(disk[segment], 2, 4) != order + 1 || !sumIsRight(disk[segment], torn[segment], 0, 6)) {
                continue;
            }
            Rec rec = standing(segment, 10);
            if (rec != null && rec.sequence == sequence) {
                used.add(segment);
                open = segment;
                place = 10;
                order++;
                return rec;
            }
        }
        return null;
    }

    private void takeMemory() {
        for (int segment = 8; segment < 64; segment++) {
            memory[segment] = disk[segment].clone();
            int end = 1024;
            if (segment == open) {
                Arrays.fill(memory[segment], place, 1024, 0);
                end = place;
            }
            if (used.contains(segment)) {
                int at = 10;
                Rec rec = standing(segment, at);
                while (rec != null && at + rec.length() <= end) {
                    records.get(segment).add(rec);
                    at += rec.length();
                    rec = standing(segment, at);
                }
            }
        }
        if (open != 0) {
            opened.add(open);
        }
    }

    private void take(Checkpoint c) {
        number = c.number;
        turn = 1 - c.region;
        sequence = c.sequence;
        clock = c.clock;
        open = c.open;
        place = c.place;
        order = c.order;
        used.addAll(c.used);
        if (open != 0) {
            used.add(open);
        }
        for (int key : c.leads.keySet()) {
            int segment = c.leads.get(key)[0];
            Rec rec = standing(segment, c.leads.get(key)[1]);
            if (rec == null || rec.kind != 1 || rec.key != key || !used.contains(segment)) {
                continue;
            }
            if (segment == open && rec.place + rec.length() > place) {
                continue;
            }
            index.put(key, rec);
        }
    }

    private static int get(int[] octets, int at, int width) {
        int result = 0;
        for (int i = 0; i < width; i++) {
            result = result * 256 + octets[at + i];
        }
        return result;
    }

    private static boolean sumIsRight(int[] octets, boolean[] tears, int at, int length) {
        for (int i = at; i < at + length; i++) {
            if (tears[i]) {
                return false;
            }
        }
        return sum(Arrays.copyOfRange(octets, at, at + length)) == get(octets, at + length, 4);
    }

    private Rec standing(int segment, int at) {
        int[] octets = disk[segment];
        if (at + 16 > 1024) {
            return null;
        }
        Rec rec = new Rec();
        rec.kind = octets[at];
        rec.key = get(octets, at + 1, 2);
        int n = octets[at + 3];
        boolean kindIsRight = rec.kind == 1 && n <= 100 || rec.kind == 2 && n == 0;
        if (!kindIsRight || rec.key > 299 || at + 16 + n > 1024) {
            return null;
        }
        if (!sumIsRight(octets, torn[segment], at, 12 + n)) {
            return null;
        }
        rec.sequence = get(octets, at + 4, 4);
        rec.time = get(octets, at + 8, 4);
        rec.value = Arrays.copyOfRange(octets, at + 12, at + 12 + n);
        rec.segment = segment;
        rec.place = at;
        return rec;
    }

    private Checkpoint read(int region) {
        int[] octets = new int[4096];
        boolean[] tears = new boolean[4096];
        for (int i = 0; i < 4096; i++) {
            octets[i] = disk[region * 4 + i / 1024][i % 1024];
            tears[i] = torn[region * 4 + i / 1024][i % 1024];
        }
        int keys = get(octets, 21, 2);
        if (octets[0] != 67 || octets[1] != 80 || keys > 300) {
            return null;
        }
        int flags = 23 + 5 * keys;
        if (!sumIsRight(octets, tears, 0, flags + 56)) {
            return null;
        }
        Checkpoint c = new Checkpoint();
        c.region = region;
        c.number = get(octets, 2, 4);
        c.sequence = get(octets, 6, 4);
        c.clock = get(octets, 10, 4);
        c.open = octets[14];
        c.place = get(octets, 15, 2);
        c.order = get(octets, 17, 4);
        boolean openIsRight = c.open == 0 ? c.place == 0
            : c.open >= 8 && c.open <= 63 && c.place >= 10 && c.place <= 1024;
        if (c.number < 1 || c.sequence < 1 || c.clock < 0 || c.order < 0 || !openIsRight) {
            return null;
        }
        for (int i = 0; i < keys; i++) {
            int key = get(octets, 23 + 5 * i, 2);
            int segment = octets[25 + 5 * i];
            int at = get(octets, 26 + 5 * i, 2);
            boolean rises = c.leads.isEmpty() || key > c.leads.lastKey();
            if (!rises || key > 299 || segment < 8 || segment > 63 || at < 10 || at > 1008) {
                return null;
            }
            c.leads.put(key, new int[] {segment, at});
        }
        for (int segment = 8; segment < 64; segment++) {
            int flag = octets[flags + segment - 8];
            if (flag > 1) {
                return null;
            }
            if (flag == 1) {
                c.used.add(segment);
            }
        }
        return c;
    }

    boolean hasAValueAtHand() {
        return !hand.isEmpty();
    }

    boolean isClear(int segment) {
        return Arrays.stream(disk[segment]).allMatch(octet -> octet == 0);
    }

    int disk(int segment, int i) {
        return segment < 0 || segment > 63 || i < 0 || i > 1023 ? -1 : disk[segment][i];
    }

    int poke(int segment, int i, int mask) {
        if (segment < 0 || segment > 63 || i < 0 || i > 1023) {
            return -1;
        }
        if (mask < 0 || mask > 255) {
            return -2;
        }
        disk[segment][i] ^= mask;
        return disk[segment][i];
    }

    int segment(int segment, int what) {
        if (down) {
            return -3;
        }
        if (segment < 8 || segment > 63) {
            return -1;
        }
        if (what < 0 || what > 3) {
            return -2;
        }
        boolean isUsed = used.contains(segment);
        if (what == 0) {
            return segment == open ? 2 : isUsed ? 1 : spent.contains(segment) ? 3 : 0;
        }
        if (!isUsed) {
            return 0;
        }
        return what == 1 ? live(segment) : what == 2 ? latest(segment) : get(memory[segment], 2, 4);
    }

    int where(int key, int what) {
        if (down) {
            return -3;
        }
        if (!index.containsKey(key)) {
            return -1;
        }
        Rec rec = index.get(key);
        switch (what) {
            case 0:
                return rec.segment;
            case 1:
                return rec.place;
            case 2:
                return rec.sequence;
            case 3:
                return rec.time;
            default:
                return -2;
        }
    }

    int told(int what) {
        if (what < 0 || what > 9) {
            return -2;
        }
        if (what == 8) {
            return written;
        }
        if (what == 9) {
            return down ? 1 : 0;
        }
        if (down) {
            return 0;
        }
        switch (what) {
            case 0:
                return sequence;
            case 1:
                return clock;
            case 2:
                return open;
            case 3:
                return place;
            case 4:
                return free();
            case 5:
                return index.size();
            case 6:
                int octets = 0;
                for (boolean[] row : came) {
                    for (boolean octet : row) {
                        octets += octet ? 1 : 0;
                    }
                }
                return octets;
            default:
                return number;
        }
    }
}

import java.util.Arrays;

/**
 * A store of values by keys that is a log on a disk. The promises that it keeps stand in the
 * project's document; the words in capitals in the comments are that document's terms.
 */
public final class AgedLog {
    private static final int SEGMENTS = 64;
    private static final int SEGMENT = 1024;
    private static final int SECTOR = 64;
    private static final int SECTORS_A_SEGMENT = 16;
    private static final int DISK = 65536;
    private static final int FIRST_OF_LOG = 8;

    private static final int REGION = 4096;
    private static final int SECTORS_A_REGION = 64;

    private static final int KEYS = 300;
    private static final int LONGEST_VALUE = 100;
    private static final int MOST_FED = 8;
    private static final int MOST_CLEANED = 8;
    private static final int MOST_TICKS = 100000;
    private static final int MOST_SECTORS_TO_CUT = 10000;

    private static final int PUT = 1;
    private static final int REMOVED = 2;

    private static final int RECORD_KEY = 1;
    private static final int RECORD_LENGTH = 3;
    private static final int RECORD_SEQUENCE = 4;
    private static final int RECORD_TIME = 8;
    private static final int RECORD_VALUE = 12;
    /** The octets of a record beside those of its value. */
    private static final int RECORD_FRAME = 16;

    private static final int HEAD = 10;
    private static final int HEAD_ORDER = 2;
    private static final int HEAD_SUM = 6;
    private static final int HEAD_FIRST = 76;
    private static final int HEAD_SECOND = 71;

    private static final int REGION_NUMBER = 2;
    private static final int REGION_SEQUENCE = 6;
    private static final int REGION_CLOCK = 10;
    private static final int REGION_OPEN = 14;
    private static final int REGION_PLACE = 15;
    private static final int REGION_ORDER = 17;
    private static final int REGION_COUNT = 21;
    private static final int REGION_KEYS = 23;
    private static final int REGION_KEY = 5;
    private static final int REGION_FIRST = 67;
    private static final int REGION_SECOND = 80;
    /** The longest checkpoint, 23 + 300 * 5 + 56 + 4 octets, in whole SECTORS. */
    private static final int LONGEST_CHECKPOINT = 1600;

    private static final int FREE = 0;
    private static final int USED = 1;
    private static final int OPEN = 2;
    private static final int SPENT = 3;

    private static final int NO_SUCH_THING = -1;
    private static final int OUT_OF_RANGE = -2;
    private static final int IS_DOWN = -3;
    private static final int NO_ROOM = -4;
    private static final int POWER_WENT = -5;

    private final Disk drive;
    private final Index index;
    private final Log log;
    private final Cleaner cleaner;
    private final Regions regions;
    private final Recovery recovery;
    private final byte[] hand;
    private int handLength;
    private boolean down;

    public AgedLog() {
        drive = new Disk();
        index = new Index();
        log = new Log(index);
        cleaner = new Cleaner(log, index);
        regions = new Regions(drive, log, index);
        recovery = new Recovery(drive, log, index, regions);
        hand = new byte[LONGEST_VALUE];
        handLength = 0;
        down = false;
    }

    public int feed(long v, int n) {
        if (n < 0 || n > MOST_FED) {
            return OUT_OF_RANGE;
        }
        if (n == 0) {
            handLength = 0;
            return 0;
        }
        if (handLength + n > LONGEST_VALUE) {
            return NO_ROOM;
        }
        for (int i = n - 1; i >= 0; i--) {
            hand[handLength] = (byte) (v >>> (8 * i));
            handLength++;
        }
        return handLength;
    }

    public int put(int key) {
        if (down) {
            return IS_DOWN;
        }
        if (!isKey(key)) {
            return OUT_OF_RANGE;
        }
        if (!log.hasRoomFor(RECORD_FRAME + handLength)) {
            return NO_ROOM;
        }
        int sequence = log.append(PUT, key, log.clock, hand, 0, handLength);
        handLength = 0;
        return sequence;
    }

    public int remove(int key) {
        if (down) {
            return IS_DOWN;
        }
        if (!index.has(key)) {
            return NO_SUCH_THING;
        }
        if (!log.hasRoomFor(RECORD_FRAME)) {
            return NO_ROOM;
        }
        return log.append(REMOVED, key, log.clock, hand, 0, 0);
    }

    public int size(int key) {
        if (down) {
            return IS_DOWN;
        }
        return index.has(key) ? log.lengthOf(key) : NO_SUCH_THING;
    }

    public int value(int key, int i) {
        if (down) {
            return IS_DOWN;
        }
        if (!index.has(key) || i < 0 || i >= log.lengthOf(key)) {
            return NO_SUCH_THING;
        }
        return Octets.number(log.memory, index.addressOf(key) + RECORD_VALUE + i, 1);
    }

    public int sync() {
        if (down) {
            return IS_DOWN;
        }
        int sectors = log.writeFresh(drive);
        down = sectors == POWER_WENT;
        return sectors;
    }

    public int checkpoint() {
        if (down) {
            return IS_DOWN;
        }
        if (log.writeFresh(drive) == POWER_WENT || !regions.write()) {
            down = true;
            return POWER_WENT;
        }
        log.freeSpent();
        return regions.number;
    }

    public int clean(int n) {
        if (down) {
            return IS_DOWN;
        }
        if (n < 1 || n > MOST_CLEANED) {
            return OUT_OF_RANGE;
        }
        return cleaner.spend(n);
    }

    public int tick(int n) {
        if (down) {
            return IS_DOWN;
        }
        if (n < 0 || n > MOST_TICKS) {
            return OUT_OF_RANGE;
        }
        log.clock += n;
        return log.clock;
    }

    public int cut(int n, int t) {
        if (down) {
            return IS_DOWN;
        }
        if (n < 0 || n > MOST_SECTORS_TO_CUT || t < 0 || t >= SECTOR) {
            return OUT_OF_RANGE;
        }
        drive.cutAt(n, t);
        return 1;
    }

    public int start() {
        drive.cutAt(0, 0);
        down = false;
        recovery.takeCheckpoint();
        int count = recovery.goThrough();
        recovery.fillMemory();
        return count;
    }

    public int disk(int segment, int i) {
        if (!isOctet(segment, i)) {
            return NO_SUCH_THING;
        }
        return Octets.number(drive.row, segment * SEGMENT + i, 1);
    }

    public int poke(int segment, int i, int mask) {
        if (!isOctet(segment, i)) {
            return NO_SUCH_THING;
        }
        if (mask < 0 || mask > 255) {
            return OUT_OF_RANGE;
        }
        return drive.flip(segment * SEGMENT + i, mask);
    }

    public int segment(int segment, int what) {
        if (down) {
            return IS_DOWN;
        }
        if (!isOfLog(segment)) {
            return NO_SUCH_THING;
        }
        switch (what) {
            case 0:
                return log.stateOf(segment);
            case 1:
                return log.isUsed(segment) ? log.liveIn(segment) : 0;
            case 2:
                return log.isUsed(segment) ? log.latestTimeIn(segment) : 0;
            case 3:
                return log.isUsed(segment) ? log.orderOf(segment) : 0;
            default:
                return OUT_OF_RANGE;
        }
    }

    public int where(int key, int what) {
        if (down) {
            return IS_DOWN;
        }
        if (!index.has(key)) {
            return NO_SUCH_THING;
        }
        switch (what) {
            case 0:
                return index.segmentOf(key);
            case 1:
                return index.placeOf(key);
            case 2:
                return log.sequenceOf(key);
            case 3:
                return log.timeOf(key);
            default:
                return OUT_OF_RANGE;
        }
    }

    public int told(int what) {
        if (what < 0 || what > 9) {
            return OUT_OF_RANGE;
        }
        if (what == 9) {
            return down ? 1 : 0;
        }
        if (what == 8) {
            return drive.written;
        }
        return down ? 0 : toldWhileUp(what);
    }

    private int toldWhileUp(int what) {
        switch (what) {
            case 0:
                return log.nextSequence;
            case 1:
                return log.clock;
            case 2:
                return log.open;
            case 3:
                return log.place;
            case 4:
                return log.countFree();
            case 5:
                return index.count;
            case 6:
                return log.countFreshOctets();
            default:
                return regions.number;
        }
    }

    private static boolean isKey(int key) {
        return key >= 0 && key < KEYS;
    }

    private static boolean isOfLog(int segment) {
        return segment >= FIRST_OF_LOG && segment < SEGMENTS;
    }

    private static boolean isOctet(int segment, int i) {
        return segment >= 0 && segment < SEGMENTS && i >= 0 && i < SEGMENT;
    }

    /** Numbers and the SUM over rows of octets; what lies outside a row is not touched. */
    private static final class Octets {
        private static final int FACTOR = 0x9E3779B1;

        static boolean isWithin(byte[] row, int at, int length) {
            return at >= 0 && length >= 0 && length <= row.length && at <= row.length - length;
        }

        static int number(byte[] row, int at, int width) {
            if (!isWithin(row, at, width)) {
                return 0;
            }
            int number = 0;
            for (int i = at; i < at + width; i++) {
                number = number << 8 | row[i] & 255;
            }
            return number;
        }

        static void setNumber(byte[] row, int at, int width, int number) {
            if (!isWithin(row, at, width)) {
                return;
            }
            int rest = number;
            for (int i = at + width - 1; i >= at; i--) {
                row[i] = (byte) rest;
                rest >>>= 8;
            }
        }

        static int sum(byte[] row, int at, int length) {
            if (!isWithin(row, at, length)) {
                return 0;
            }
            int sum = 0;
            for (int i = at; i < at + length; i++) {
                sum = Integer.rotateLeft(sum ^ row[i] & 255, 5) * FACTOR;
            }
            return sum;
        }

        static void setSum(byte[] row, int at, int length) {
            setNumber(row, at + length, 4, sum(row, at, length));
        }

        static void copy(byte[] from, int fromAt, byte[] to, int toAt, int length) {
            if (isWithin(from, fromAt, length) && isWithin(to, toAt, length)) {
                System.arraycopy(from, fromAt, to, toAt, length);
            }
        }

        static void clear(byte[] row, int at, int length) {
            if (!isWithin(row, at, length)) {
                return;
            }
            for (int i = at; i < at + length; i++) {
                row[i] = 0;
            }
        }
    }

    /** THE DISK, what of it is TORN, and the POWER that may go. */
    private static final class Disk {
        private final byte[] row = new byte[DISK];
        /**
         * How many octets at the end of each SECTOR are TORN. One number is enough: each cut tears
         * up to the SECTOR's end, so what several cuts tore is what the longest of them did.
         */
        private final int[] tornTail = new int[SEGMENTS * SECTORS_A_SEGMENT];
        private int written = 0;
        private int sectorsToCut = 0;
        private int octetsToCut = 0;

        void cutAt(int sectors, int octets) {
            sectorsToCut = sectors;
            octetsToCut = octets;
        }

        int flip(int at, int mask) {
            Octets.setNumber(row, at, 1, Octets.number(row, at, 1) ^ mask);
            return Octets.number(row, at, 1);
        }

        /** Whether the SUM of the octets there stands right behind them. */
        boolean hasSum(int at, int length) {
            return Octets.isWithin(row, at, length + 4)
                && Octets.number(row, at + length, 4) == Octets.sum(row, at, length)
                && !isTorn(at, length);
        }

        private boolean isTorn(int at, int length) {
            int end = at + length;
            int sectors = Math.min(tornTail.length, (end + SECTOR - 1) / SECTOR);
            for (int sector = at / SECTOR; sector < sectors; sector++) {
                int sectorEnd = (sector + 1) * SECTOR;
                int tornFrom = Math.max(at, sectorEnd - tornTail[sector]);
                if (tornFrom < Math.min(end, sectorEnd)) {
                    return true;
                }
            }
            return false;
        }

        /** Writes a SECTOR whose octets before firstNew have not changed: false if power went. */
        boolean write(int sector, byte[] source, int at, int firstNew) {
            if (sector < 0 || sector >= tornTail.length) {
                return true;
            }
            boolean whole = sectorsToCut != 1;
            if (sectorsToCut > 0) {
                sectorsToCut--;
            }
            Octets.copy(source, at, row, sector * SECTOR, whole ? SECTOR : octetsToCut);
            if (whole) {
                tornTail[sector] = 0;
                written++;
            } else {
                int tail = SECTOR - Math.max(octetsToCut, firstNew);
                tornTail[sector] = Math.max(tornTail[sector], tail);
            }
            return whole;
        }
    }

    /** THE INDEX: where the latest PUT record of each key that has a value begins. */
    private static final class Index {
        /** 0 for a key without a value: no record is in a segment of that number. */
        private final int[] segments = new int[KEYS];
        private final int[] places = new int[KEYS];
        private int count = 0;

        boolean has(int key) {
            return isKey(key) && isOfLog(segments[key]);
        }

        int segmentOf(int key) {
            return isKey(key) ? segments[key] : 0;
        }

        int placeOf(int key) {
            return isKey(key) ? places[key] : 0;
        }

        /** Where its octets begin in MEMORY; 0, where only 0s are, for a key without a value. */
        int addressOf(int key) {
            return isKey(key) ? segments[key] * SEGMENT + places[key] : 0;
        }

        /** Takes notice of a record of that kind and key. */
        void follow(int kind, int key, int segment, int place) {
            if (!isKey(key)) {
                return;
            }
            if (segments[key] != 0) {
                count--;
            }
            segments[key] = kind == PUT ? segment : 0;
            places[key] = kind == PUT ? place : 0;
            if (segments[key] != 0) {
                count++;
            }
        }

        void clear() {
            Arrays.fill(segments, 0);
            Arrays.fill(places, 0);
            count = 0;
        }
    }

    /** The segments of the log as MEMORY has them, and what has not been written of them. */
    private static final class Log {
        private final Index index;
        private final byte[] memory = new byte[DISK];
        private final int[] states = new int[SEGMENTS];
        private final boolean[] hasRecords = new boolean[SEGMENTS];
        private final int[] latestTimes = new int[SEGMENTS];
        /** The segments in which something came since the last SYNC, as they were opened. */
        private final int[] fresh = new int[SEGMENTS];
        private final int[] freshFrom = new int[SEGMENTS];
        private final int[] freshTo = new int[SEGMENTS];
        private int freshCount = 0;
        private int open = 0;
        private int place = 0;
        private int order = 0;
        private int nextSequence = 1;
        private int clock = 0;

        Log(Index index) {
            this.index = index;
        }

        void setAsAtFirst() {
            Arrays.fill(states, FREE);
            freshCount = 0;
            open = 0;
            place = 0;
            order = 0;
            nextSequence = 1;
            clock = 0;
        }

        int stateOf(int segment) {
            if (!isOfLog(segment)) {
                return FREE;
            }
            return segment == open ? OPEN : states[segment];
        }

        boolean isUsed(int segment) {
            return isOfLog(segment) && states[segment] == USED;
        }

        void use(int segment) {
            if (isOfLog(segment)) {
                states[segment] = USED;
            }
        }

        void spend(int segment) {
            if (isOfLog(segment)) {
                states[segment] = SPENT;
            }
        }

        void freeSpent() {
            for (int segment = FIRST_OF_LOG; segment < SEGMENTS; segment++) {
                if (states[segment] == SPENT) {
                    states[segment] = FREE;
                }
            }
        }

        int countFree() {
            int count = 0;
            for (int segment = FIRST_OF_LOG; segment < SEGMENTS; segment++) {
                if (states[segment] == FREE) {
                    count++;
                }
            }
            return count;
        }

        int orderOf(int segment) {
            return Octets.number(memory, segment * SEGMENT + HEAD_ORDER, 4);
        }

        int latestTimeIn(int segment) {
            return isOfLog(segment) && hasRecords[segment] ? latestTimes[segment] : 0;
        }

        void forgetTimes(int segment) {
            if (isOfLog(segment)) {
                hasRecords[segment] = false;
            }
        }

        void noteTime(int segment, int time) {
            if (!isOfLog(segment)) {
                return;
            }
            if (!hasRecords[segment] || time > latestTimes[segment]) {
                latestTimes[segment] = time;
            }
            hasRecords[segment] = true;
        }

        int lengthOf(int key) {
            return Octets.number(memory, index.addressOf(key) + RECORD_LENGTH, 1);
        }

        int sequenceOf(int key) {
            return Octets.number(memory, index.addressOf(key) + RECORD_SEQUENCE, 4);
        }

        int timeOf(int key) {
            return Octets.number(memory, index.addressOf(key) + RECORD_TIME, 4);
        }

        int liveIn(int segment) {
            int live = 0;
            for (int key = 0; key < KEYS; key++) {
                if (index.has(key) && index.segmentOf(key) == segment) {
                    live += RECORD_FRAME + lengthOf(key);
                }
            }
            return live;
        }

        boolean fits(int length) {
            return open != 0 && place + length <= SEGMENT;
        }

        /** Two FREE segments are held back, so that there is always something to clean into. */
        boolean hasRoomFor(int length) {
            return fits(length) || countFree() > 2;
        }

        int append(int kind, int key, int time, byte[] source, int at, int length) {
            if (!fits(RECORD_FRAME + length)) {
                openNext();
            }
            int sequence = nextSequence;
            nextSequence++;
            int address = open * SEGMENT + place;
            Octets.setNumber(memory, address, 1, kind);
            Octets.setNumber(memory, address + RECORD_KEY, 2, key);
            Octets.setNumber(memory, address + RECORD_LENGTH, 1, length);
            Octets.setNumber(memory, address + RECORD_SEQUENCE, 4, sequence);
            Octets.setNumber(memory, address + RECORD_TIME, 4, time);
            Octets.copy(source, at, memory, address + RECORD_VALUE, length);
            Octets.setSum(memory, address, RECORD_VALUE + length);
            index.follow(kind, key, open, place);
            noteTime(open, time);
            noteFresh(RECORD_FRAME + length);
            return sequence;
        }

        private void openNext() {
            int segment = leastFree();
            if (segment == 0) {
                return;
            }
            use(segment);
            forgetTimes(segment);
            open = segment;
            place = 0;
            order++;
            int address = segment * SEGMENT;
            Octets.clear(memory, address, SEGMENT);
            Octets.setNumber(memory, address, 1, HEAD_FIRST);
            Octets.setNumber(memory, address + 1, 1, HEAD_SECOND);
            Octets.setNumber(memory, address + HEAD_ORDER, 4, order);
            Octets.setSum(memory, address, HEAD_SUM);
            noteFresh(HEAD);
        }

        private int leastFree() {
            for (int segment = FIRST_OF_LOG; segment < SEGMENTS; segment++) {
                if (states[segment] == FREE) {
                    return segment;
                }
            }
            return 0;
        }

        /** So many octets came at the PLACE. */
        private void noteFresh(int length) {
            if (!isOfLog(open)) {
                return;
            }
            boolean known = freshCount > 0 && fresh[freshCount - 1] == open;
            if (!known && freshCount < SEGMENTS) {
                fresh[freshCount] = open;
                freshCount++;
                freshFrom[open] = place;
            }
            place += length;
            freshTo[open] = place;
        }

        int countFreshOctets() {
            int count = 0;
            for (int i = 0; i < freshCount; i++) {
                count += freshTo[fresh[i]] - freshFrom[fresh[i]];
            }
            return count;
        }

        /** SYNC: how many SECTORS were written, or that power went. */
        int writeFresh(Disk drive) {
            int sectors = 0;
            for (int i = 0; i < freshCount; i++) {
                int written = writeFreshOf(fresh[i], drive);
                if (written == POWER_WENT) {
                    return POWER_WENT;
                }
                sectors += written;
            }
            freshCount = 0;
            return sectors;
        }

        private int writeFreshOf(int segment, Disk drive) {
            int from = freshFrom[segment];
            int to = freshTo[segment];
            int sectors = 0;
            if (to % SECTOR == 0 && to < SEGMENT) {
                // MEMORY has only 0s behind what came, so this is the SECTOR of 0s.
                if (!writeSector(segment, to / SECTOR, 0, drive)) {
                    return POWER_WENT;
                }
                sectors++;
            }
            for (int sector = from / SECTOR; sector * SECTOR < to; sector++) {
                int firstNew = Math.max(0, from - sector * SECTOR);
                if (!writeSector(segment, sector, firstNew, drive)) {
                    return POWER_WENT;
                }
                sectors++;
            }
            return sectors;
        }

        private boolean writeSector(int segment, int sector, int firstNew, Disk drive) {
            int number = segment * SECTORS_A_SEGMENT + sector;
            return drive.write(number, memory, number * SECTOR, firstNew);
        }

        void loadMemory(Disk drive) {
            for (int segment = FIRST_OF_LOG; segment < SEGMENTS; segment++) {
                int address = segment * SEGMENT;
                if (isUsed(segment)) {
                    Octets.copy(drive.row, address, memory, address, SEGMENT);
                }
            }
            if (open != 0) {
                Octets.clear(memory, open * SEGMENT + place, SEGMENT - place);
            }
        }
    }

    /** CLEANING. */
    private static final class Cleaner {
        private final Log log;
        private final Index index;
        private final boolean[] chosen = new boolean[SEGMENTS];
        private final int[] live = new int[SEGMENTS];
        /** The keys of the LIVE records of the chosen segments, in the order of their age. */
        private final int[] aged = new int[KEYS];
        private int agedCount = 0;

        Cleaner(Log log, Index index) {
            this.log = log;
            this.index = index;
        }

        /** How many segments are SPENT by it, or that there is no room. */
        int spend(int n) {
            int chosenCount = choose(n);
            gatherAged();
            if (countWanted() > log.countFree()) {
                return NO_ROOM;
            }
            for (int i = 0; i < agedCount; i++) {
                appendAgain(aged[i]);
            }
            for (int segment = FIRST_OF_LOG; segment < SEGMENTS; segment++) {
                if (chosen[segment]) {
                    log.spend(segment);
                }
            }
            return chosenCount;
        }

        private int choose(int n) {
            forgetChosen();
            weighLive();
            for (int i = 0; i < n; i++) {
                int best = bestLeft();
                if (best == 0) {
                    return i;
                }
                chosen[best] = true;
            }
            return n;
        }

        private void forgetChosen() {
            for (int segment = 0; segment < SEGMENTS; segment++) {
                chosen[segment] = false;
            }
        }

        private void weighLive() {
            Arrays.fill(live, 0);
            for (int key = 0; key < KEYS; key++) {
                if (index.has(key)) {
                    live[index.segmentOf(key)] += RECORD_FRAME + log.lengthOf(key);
                }
            }
        }

        private int bestLeft() {
            int best = 0;
            for (int segment = FIRST_OF_LOG; segment < SEGMENTS; segment++) {
                boolean left = log.stateOf(segment) == USED && !chosen[segment];
                if (left && (best == 0 || isWorthMore(segment, best))) {
                    best = segment;
                }
            }
            return best;
        }

        /** Both sides times both divisors, which are above 0: so nothing is rounded. */
        private boolean isWorthMore(int one, int other) {
            long oneWorth = (SEGMENT - live[one]) * ageOf(one) * (SEGMENT + live[other]);
            long otherWorth = (SEGMENT - live[other]) * ageOf(other) * (SEGMENT + live[one]);
            return oneWorth > otherWorth;
        }

        private long ageOf(int segment) {
            return (long) log.clock + 1 - log.latestTimeIn(segment);
        }

        private void gatherAged() {
            agedCount = 0;
            for (int key = 0; key < KEYS; key++) {
                if (index.has(key) && chosen[index.segmentOf(key)]) {
                    insertAged(key);
                }
            }
        }

        private void insertAged(int key) {
            if (agedCount >= KEYS) {
                return;
            }
            int at = agedCount;
            while (at > 0 && isOlder(key, aged[at - 1])) {
                aged[at] = aged[at - 1];
                at--;
            }
            aged[at] = key;
            agedCount++;
        }

        private boolean isOlder(int key, int other) {
            int time = log.timeOf(key);
            int otherTime = log.timeOf(other);
            if (time != otherTime) {
                return time < otherTime;
            }
            return log.sequenceOf(key) < log.sequenceOf(other);
        }

        /** How many segments the LIVE records would open. */
        private int countWanted() {
            int wanted = 0;
            int place = log.open == 0 ? SEGMENT : log.place;
            for (int i = 0; i < agedCount; i++) {
                int length = RECORD_FRAME + log.lengthOf(aged[i]);
                if (place + length > SEGMENT) {
                    wanted++;
                    place = HEAD;
                }
                place += length;
            }
            return wanted;
        }

        private void appendAgain(int key) {
            int valueAt = index.addressOf(key) + RECORD_VALUE;
            log.append(PUT, key, log.timeOf(key), log.memory, valueAt, log.lengthOf(key));
        }
    }

    /** The checkpoints in the two REGIONS. */
    private static final class Regions {
        private final Disk drive;
        private final Log log;
        private final Index index;
        private final byte[] row = new byte[LONGEST_CHECKPOINT];
        private int number = 0;
        private int turn = 0;

        Regions(Disk drive, Log log, Index index) {
            this.drive = drive;
            this.log = log;
            this.index = index;
        }

        void setAsAtFirst() {
            number = 0;
            turn = 0;
        }

        /** Writes the next checkpoint: false if power went. */
        boolean write() {
            int length = fillRow();
            for (int sector = 0; sector * SECTOR < length; sector++) {
                if (!drive.write(turn * SECTORS_A_REGION + sector, row, sector * SECTOR, 0)) {
                    return false;
                }
            }
            number++;
            turn = 1 - turn;
            return true;
        }

        /** Lays the next checkpoint out: how many octets it has. */
        private int fillRow() {
            Arrays.fill(row, (byte) 0);
            Octets.setNumber(row, 0, 1, REGION_FIRST);
            Octets.setNumber(row, 1, 1, REGION_SECOND);
            Octets.setNumber(row, REGION_NUMBER, 4, number + 1);
            Octets.setNumber(row, REGION_SEQUENCE, 4, log.nextSequence);
            Octets.setNumber(row, REGION_CLOCK, 4, log.clock);
            Octets.setNumber(row, REGION_OPEN, 1, log.open);
            Octets.setNumber(row, REGION_PLACE, 2, log.place);
            Octets.setNumber(row, REGION_ORDER, 4, log.order);
            Octets.setNumber(row, REGION_COUNT, 2, index.count);
            int at = REGION_KEYS;
            for (int key = 0; key < KEYS; key++) {
                if (index.has(key)) {
                    Octets.setNumber(row, at, 2, key);
                    Octets.setNumber(row, at + 2, 1, index.segmentOf(key));
                    Octets.setNumber(row, at + 3, 2, index.placeOf(key));
                    at += REGION_KEY;
                }
            }
            for (int segment = FIRST_OF_LOG; segment < SEGMENTS; segment++) {
                Octets.setNumber(row, at, 1, log.isUsed(segment) ? 1 : 0);
                at++;
            }
            Octets.setSum(row, 0, at);
            return at + 4;
        }

        /** The REGION that counts at START, or -1 if none is RIGHT. */
        int newest() {
            boolean first = isRight(0);
            boolean second = isRight(1);
            if (first && second) {
                return numberAt(1, REGION_NUMBER, 4) > numberAt(0, REGION_NUMBER, 4) ? 1 : 0;
            }
            if (first) {
                return 0;
            }
            return second ? 1 : -1;
        }

        private int numberAt(int region, int at, int width) {
            return Octets.number(drive.row, region * REGION + at, width);
        }

        private boolean isRight(int region) {
            int count = numberAt(region, REGION_COUNT, 2);
            int flags = REGION_KEYS + count * REGION_KEY;
            return numberAt(region, 0, 1) == REGION_FIRST
                && numberAt(region, 1, 1) == REGION_SECOND
                && count <= KEYS
                && drive.hasSum(region * REGION, flags + SEGMENTS - FIRST_OF_LOG)
                && areNumbersRight(region)
                && isOpenRight(region)
                && areKeysRight(region, count)
                && areFlagsRight(region, flags);
        }

        private boolean areNumbersRight(int region) {
            return numberAt(region, REGION_NUMBER, 4) >= 1
                && numberAt(region, REGION_SEQUENCE, 4) >= 1
                && numberAt(region, REGION_CLOCK, 4) >= 0
                && numberAt(region, REGION_ORDER, 4) >= 0;
        }

        private boolean isOpenRight(int region) {
            int open = numberAt(region, REGION_OPEN, 1);
            int place = numberAt(region, REGION_PLACE, 2);
            if (open == 0) {
                return place == 0;
            }
            return isOfLog(open) && place >= HEAD && place <= SEGMENT;
        }

        private boolean areKeysRight(int region, int count) {
            int before = -1;
            for (int i = 0; i < count; i++) {
                int at = REGION_KEYS + i * REGION_KEY;
                int key = numberAt(region, at, 2);
                int place = numberAt(region, at + 3, 2);
                if (key <= before || !isKey(key) || !isOfLog(numberAt(region, at + 2, 1))) {
                    return false;
                }
                if (place < HEAD || place > SEGMENT - RECORD_FRAME) {
                    return false;
                }
                before = key;
            }
            return true;
        }

        private boolean areFlagsRight(int region, int flags) {
            for (int i = 0; i < SEGMENTS - FIRST_OF_LOG; i++) {
                if (numberAt(region, flags + i, 1) > 1) {
                    return false;
                }
            }
            return true;
        }

        /** Sets all but THE INDEX as that REGION tells. */
        void load(int region) {
            number = numberAt(region, REGION_NUMBER, 4);
            turn = 1 - region;
            log.nextSequence = numberAt(region, REGION_SEQUENCE, 4);
            log.clock = numberAt(region, REGION_CLOCK, 4);
            log.open = numberAt(region, REGION_OPEN, 1);
            log.place = numberAt(region, REGION_PLACE, 2);
            log.order = numberAt(region, REGION_ORDER, 4);
            int flags = REGION_KEYS + countOf(region) * REGION_KEY;
            for (int segment = FIRST_OF_LOG; segment < SEGMENTS; segment++) {
                if (numberAt(region, flags + segment - FIRST_OF_LOG, 1) == 1) {
                    log.use(segment);
                }
            }
            log.use(log.open);
        }

        int countOf(int region) {
            return Math.min(numberAt(region, REGION_COUNT, 2), KEYS);
        }

        int keyOf(int region, int entry) {
            return numberAt(region, REGION_KEYS + entry * REGION_KEY, 2);
        }

        int segmentOf(int region, int entry) {
            return numberAt(region, REGION_KEYS + entry * REGION_KEY + 2, 1);
        }

        int placeOf(int region, int entry) {
            return numberAt(region, REGION_KEYS + entry * REGION_KEY + 3, 2);
        }
    }

    /** START. */
    private static final class Recovery {
        /** No run can go through more: each record has 16 octets or more. */
        private static final int MOST_RECORDS = DISK / RECORD_FRAME;

        private final Disk drive;
        private final Log log;
        private final Index index;
        private final Regions regions;

        Recovery(Disk drive, Log log, Index index, Regions regions) {
            this.drive = drive;
            this.log = log;
            this.index = index;
            this.regions = regions;
        }

        void takeCheckpoint() {
            log.setAsAtFirst();
            regions.setAsAtFirst();
            index.clear();
            int region = regions.newest();
            if (region >= 0) {
                regions.load(region);
                loadIndex(region);
            }
        }

        private void loadIndex(int region) {
            int count = regions.countOf(region);
            for (int entry = 0; entry < count; entry++) {
                int key = regions.keyOf(region, entry);
                int segment = regions.segmentOf(region, entry);
                int place = regions.placeOf(region, entry);
                if (isPutOf(key, segment, place)) {
                    index.follow(PUT, key, segment, place);
                }
            }
        }

        private boolean isPutOf(int key, int segment, int place) {
            int length = rightLength(segment, place);
            return length > 0
                && log.isUsed(segment)
                && place + length <= endOf(segment)
                && kindAt(segment, place) == PUT
                && keyAt(segment, place) == key;
        }

        /** Where the records of a segment end at the latest. */
        private int endOf(int segment) {
            return segment == log.open ? log.place : SEGMENT;
        }

        /** How many records count behind the checkpoint. */
        int goThrough() {
            int count = 0;
            while (count < MOST_RECORDS && findNext()) {
                followRecord();
                count++;
            }
            return count;
        }

        /** Whether a record counts at the PLACE, or at the first one of a segment that is next. */
        private boolean findNext() {
            if (isNext(log.open, log.place)) {
                return true;
            }
            for (int segment = FIRST_OF_LOG; segment < SEGMENTS; segment++) {
                if (!log.isUsed(segment) && hasNextHead(segment) && isNext(segment, HEAD)) {
                    log.use(segment);
                    log.open = segment;
                    log.place = HEAD;
                    log.order++;
                    return true;
                }
            }
            return false;
        }

        private boolean isNext(int segment, int place) {
            int address = segment * SEGMENT + place;
            return rightLength(segment, place) > 0
                && Octets.number(drive.row, address + RECORD_SEQUENCE, 4) == log.nextSequence;
        }

        private boolean hasNextHead(int segment) {
            int address = segment * SEGMENT;
            return Octets.number(drive.row, address, 1) == HEAD_FIRST
                && Octets.number(drive.row, address + 1, 1) == HEAD_SECOND
                && Octets.number(drive.row, address + HEAD_ORDER, 4) == log.order + 1
                && drive.hasSum(address, HEAD_SUM);
        }

        private void followRecord() {
            int kind = kindAt(log.open, log.place);
            int key = keyAt(log.open, log.place);
            index.follow(kind, key, log.open, log.place);
            log.clock = Math.max(log.clock, timeAt(log.open, log.place));
            log.nextSequence++;
            log.place += RECORD_FRAME + valueLengthAt(log.open, log.place);
        }

        void fillMemory() {
            log.loadMemory(drive);
            for (int segment = FIRST_OF_LOG; segment < SEGMENTS; segment++) {
                log.forgetTimes(segment);
                if (log.isUsed(segment)) {
                    readTimesOf(segment);
                }
            }
        }

        private void readTimesOf(int segment) {
            int end = endOf(segment);
            int place = HEAD;
            int length = rightLength(segment, place);
            while (length > 0 && place + length <= end) {
                log.noteTime(segment, timeAt(segment, place));
                place += length;
                length = rightLength(segment, place);
            }
        }

        private int kindAt(int segment, int place) {
            return Octets.number(drive.row, segment * SEGMENT + place, 1);
        }

        private int keyAt(int segment, int place) {
            return Octets.number(drive.row, segment * SEGMENT + place + RECORD_KEY, 2);
        }

        private int valueLengthAt(int segment, int place) {
            return Octets.number(drive.row, segment * SEGMENT + place + RECORD_LENGTH, 1);
        }

        private int timeAt(int segment, int place) {
            return Octets.number(drive.row, segment * SEGMENT + place + RECORD_TIME, 4);
        }

        /** How many octets the record there has, 0 if none stands right, whatever its SEQUENCE. */
        private int rightLength(int segment, int place) {
            if (!isOfLog(segment) || place < HEAD || place > SEGMENT - RECORD_FRAME) {
                return 0;
            }
            int kind = kindAt(segment, place);
            int valueLength = valueLengthAt(segment, place);
            int longest = kind == PUT ? LONGEST_VALUE : 0;
            if (kind != PUT && kind != REMOVED || valueLength > longest) {
                return 0;
            }
            if (!isKey(keyAt(segment, place)) || place + RECORD_FRAME + valueLength > SEGMENT) {
                return 0;
            }
            boolean right = drive.hasSum(segment * SEGMENT + place, RECORD_VALUE + valueLength);
            return right ? RECORD_FRAME + valueLength : 0;
        }
    }
}

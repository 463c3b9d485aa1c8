import java.util.ArrayList;
import java.util.List;
import java.util.function.ToIntFunction;

/**
 * "ANSWERS below 0 are refusals and change nothing: -3 first, when the store is DOWN (but where it
 * is told otherwise); -1 there is no such thing, -2 outside the range, -4 no room; the first that
 * fits." One run of calls is made plainly, and once more for each call that is refused, with that
 * one before every other: all answers and all that can be looked at must be the same.
 */
public final class RefusalTest {
    private static final int LEAST = Integer.MIN_VALUE;
    private static final int GREATEST = Integer.MAX_VALUE;

    /** A call that is always refused: with one answer when the store is up, and one when it is DOWN. */
    private static final class Refused {
        final String name;
        final ToIntFunction<Run> call;
        final int up;
        final int down;

        Refused(String name, ToIntFunction<Run> call, int up, int down) {
            this.name = name;
            this.call = call;
            this.up = up;
            this.down = down;
        }
    }

    private static final List<Refused> REFUSED = new ArrayList<>();

    public static void main(String[] args) {
        gatherChanges();
        gatherLooks();
        changesNothing();
        changesNothingWhenDown();
        changesNothingWithoutRoom();
        changesNothingWhenTheHandIsFull();
        changesNothingWithoutAValue();
        keepsTheCut();
        Check.end();
    }

    private static void refused(String name, ToIntFunction<Run> call, int up, int down) {
        REFUSED.add(new Refused(name, call, up, down));
    }

    private static void gatherChanges() {
        for (int n : new int[] {-1, 9, LEAST, GREATEST}) {
            refused("feed(7, " + n + ")", x -> x.feed(7, n), -2, -2);
        }
        for (int key : new int[] {-1, 300, LEAST, GREATEST}) {
            refused("put(" + key + ")", x -> x.put(key), -2, -3);
            refused("remove(" + key + ")", x -> x.remove(key), -1, -3);
        }
        for (int n : new int[] {0, 9, LEAST, GREATEST}) {
            refused("clean(" + n + ")", x -> x.clean(n), -2, -3);
        }
        for (int n : new int[] {-1, 100001, LEAST, GREATEST}) {
            refused("tick(" + n + ")", x -> x.tick(n), -2, -3);
        }
        for (int n : new int[] {-1, 10001, LEAST, GREATEST}) {
            refused("cut(" + n + ", 0)", x -> x.cut(n, 0), -2, -3);
        }
        for (int t : new int[] {-1, 64, LEAST, GREATEST}) {
            refused("cut(0, " + t + ")", x -> x.cut(0, t), -2, -3);
            refused("cut(1, " + t + ")", x -> x.cut(1, t), -2, -3);
        }
        for (int mask : new int[] {-1, 256, LEAST, GREATEST}) {
            refused("poke(8, 10, " + mask + ")", x -> x.poke(8, 10, mask), -2, -2);
            refused("poke(64, 10, " + mask + ")", x -> x.poke(64, 10, mask), -1, -1);
        }
        for (int none : new int[] {-1, LEAST, GREATEST}) {
            refused("poke(" + none + ", 0, 1)", x -> x.poke(none, 0, 1), -1, -1);
            refused("poke(8, " + none + ", 1)", x -> x.poke(8, none, 1), -1, -1);
        }
        refused("poke(64, 0, 1)", x -> x.poke(64, 0, 1), -1, -1);
        refused("poke(8, 1024, 1)", x -> x.poke(8, 1024, 1), -1, -1);
    }

    private static void gatherLooks() {
        for (int key : new int[] {-1, 300, LEAST, GREATEST}) {
            refused("size(" + key + ")", x -> x.size(key), -1, -3);
            refused("value(" + key + ", 0)", x -> x.value(key, 0), -1, -3);
            refused("where(" + key + ", 0)", x -> x.where(key, 0), -1, -3);
            refused("where(" + key + ", 4)", x -> x.where(key, 4), -1, -3);
        }
        for (int segment : new int[] {-1, 7, 64, LEAST, GREATEST}) {
            refused("segment(" + segment + ", 0)", x -> x.segment(segment, 0), -1, -3);
            refused("segment(" + segment + ", 4)", x -> x.segment(segment, 4), -1, -3);
        }
        for (int what : new int[] {-1, 4, LEAST, GREATEST}) {
            refused("segment(8, " + what + ")", x -> x.segment(8, what), -2, -3);
        }
        for (int what : new int[] {-1, 10, LEAST, GREATEST}) {
            refused("told(" + what + ")", x -> x.told(what), -2, -2);
        }
        for (int i : new int[] {-1, 101, LEAST, GREATEST}) {
            refused("value(1, " + i + ")", x -> x.value(1, i), -1, -3);
        }
        refused("disk(64, 0)", x -> x.disk(64, 0), -1, -1);
        refused("disk(-1, 0)", x -> x.disk(-1, 0), -1, -1);
        refused("disk(0, 1024)", x -> x.disk(0, 1024), -1, -1);
        refused("disk(0, -1)", x -> x.disk(0, -1), -1, -1);
    }

    /** Calls of all kinds, with power that goes once in a SYNC and once in a CHECKPOINT. */
    private static List<ToIntFunction<Run>> plainRun() {
        List<ToIntFunction<Run>> run = new ArrayList<>();
        run.add(x -> x.feed(0x0102030405060708L, 8));
        run.add(x -> x.put(1));
        for (int i = 0; i < 62; i++) {
            int key = 2 + i % 5;
            run.add(x -> x.put(key));
        }
        run.add(x -> x.tick(5));
        run.add(x -> x.put(7));
        run.add(x -> x.sync());
        run.add(x -> x.clean(1));
        run.add(x -> x.checkpoint());
        run.add(x -> x.remove(7));
        run.add(x -> x.feed(9, 2));
        run.add(x -> x.cut(2, 20));
        run.add(x -> x.put(8));
        run.add(x -> x.feed(77, 3));
        run.add(x -> x.feed(78, 8));
        run.add(x -> x.feed(78, 8));
        run.add(x -> x.put(9));
        run.add(x -> x.feed(79, 4));
        run.add(x -> x.sync());
        run.add(x -> x.feed(80, 4));
        run.add(x -> x.poke(9, 200, 3));
        run.add(x -> x.start());
        run.add(x -> x.put(10));
        run.add(x -> x.tick(1));
        run.add(x -> x.cut(3, 63));
        run.add(x -> x.checkpoint());
        run.add(x -> x.poke(4, 127, 255));
        run.add(x -> x.start());
        run.add(x -> x.put(11));
        run.add(x -> x.checkpoint());
        run.add(x -> x.clean(8));
        run.add(x -> x.start());
        return run;
    }

    private static void changesNothing() {
        List<ToIntFunction<Run>> plain = plainRun();
        Run x = new Run();
        int[] answers = new int[plain.size()];
        int powerWent = 0;
        for (int i = 0; i < answers.length; i++) {
            answers[i] = plain.get(i).applyAsInt(x);
            powerWent += answers[i] == -5 ? 1 : 0;
        }
        Check.due("how often power went", powerWent, 2);
        String end = Check.snapshot(x);
        for (Refused refused : REFUSED) {
            Run y = new Run();
            for (int i = 0; i < answers.length; i++) {
                int due = y.told(9) == 1 ? refused.down : refused.up;
                Check.due(refused.name + " before call " + i, refused.call.applyAsInt(y), due);
                Check.due("call " + i + " behind " + refused.name, plain.get(i).applyAsInt(y), answers[i]);
            }
            Check.isTrue("all is the same with " + refused.name, end.equals(Check.snapshot(y)));
        }
    }

    /** The calls that would be done if the store were up, and change nothing now: -3. */
    private static void changesNothingWhenDown() {
        Run x = new Run();
        x.tick(4);
        Check.put(x, 1, 3);
        x.checkpoint();
        x.put(2);
        x.feed(5, 5);
        x.cut(1, 40);
        Check.due("sync()", x.sync(), -5);
        String before = Check.snapshot(x);
        Check.due("put(1)", x.put(1), -3);
        Check.due("put(2)", x.put(2), -3);
        Check.due("remove(1)", x.remove(1), -3);
        Check.due("remove(2)", x.remove(2), -3);
        Check.due("size(1)", x.size(1), -3);
        Check.due("value(1, 0)", x.value(1, 0), -3);
        Check.due("sync()", x.sync(), -3);
        Check.due("checkpoint()", x.checkpoint(), -3);
        Check.due("clean(1)", x.clean(1), -3);
        Check.due("tick(1)", x.tick(1), -3);
        Check.due("tick(0)", x.tick(0), -3);
        Check.due("cut(1, 0)", x.cut(1, 0), -3);
        Check.due("cut(0, 0)", x.cut(0, 0), -3);
        Check.due("segment(8, 0)", x.segment(8, 0), -3);
        Check.due("where(1, 0)", x.where(1, 0), -3);
        Check.isTrue("all is the same when it is DOWN", before.equals(Check.snapshot(x)));
        Check.due("feed(6, 1): what was fed is there", x.feed(6, 1), 6);
        Check.due("start()", x.start(), 0);
        Check.due("told(1)", x.told(1), 4);
        Check.due("put(3)", x.put(3), 2);
        Check.due("size(3)", x.size(3), 6);
        Check.due("sync(): no power goes", x.sync(), 1);
    }

    private static void changesNothingWithoutRoom() {
        Run x = new Run();
        Check.crowd(x, 0);
        Check.fillTo(x, 200, 1010);
        x.feed(0xABCD, 2);
        String before = Check.snapshot(x);
        Check.due("put(1)", x.put(1), -4);
        Check.due("put(299)", x.put(299), -4);
        Check.due("remove(1)", x.remove(1), -4);
        Check.due("clean(1)", x.clean(1), -4);
        Check.due("clean(8)", x.clean(8), -4);
        Check.due("put(300)", x.put(300), -2);
        Check.due("remove(299)", x.remove(299), -1);
        Check.due("clean(0)", x.clean(0), -2);
        Check.due("clean(9)", x.clean(9), -2);
        Check.isTrue("all is the same without room", before.equals(Check.snapshot(x)));
        Check.due("feed(1, 1): what was fed is there", x.feed(1, 1), 3);
        int next = x.told(0);
        Check.due("checkpoint()", x.checkpoint(), 1);
        Check.due("put(1)", x.put(1), next);
        Check.due("value(1, 0)", x.value(1, 0), 0xAB);
        Check.due("value(1, 1)", x.value(1, 1), 0xCD);
        Check.due("where(1, 0)", x.where(1, 0), 8);
    }

    private static void changesNothingWhenTheHandIsFull() {
        Run x = new Run();
        Check.hold(x, 99);
        Check.due("feed(-1, 2)", x.feed(-1, 2), -4);
        Check.due("feed(-1, 8)", x.feed(-1, 8), -4);
        Check.due("feed(-1, 9)", x.feed(-1, 9), -2);
        Check.due("feed(100, 1)", x.feed(100, 1), 100);
        Check.due("feed(-1, 1)", x.feed(-1, 1), -4);
        x.put(1);
        for (int i = 0; i < 100; i++) {
            Check.due("value(1, " + i + ")", x.value(1, i), i + 1);
        }
    }

    private static void changesNothingWithoutAValue() {
        Run x = new Run();
        Check.due("remove(0) of an empty store", x.remove(0), -1);
        Check.due("told(2)", x.told(2), 0);
        Check.due("told(0)", x.told(0), 1);
        Check.put(x, 1, 3);
        Check.put(x, 2, 3);
        x.remove(2);
        x.feed(1, 1);
        String before = Check.snapshot(x);
        Check.due("remove(2)", x.remove(2), -1);
        Check.due("remove(0)", x.remove(0), -1);
        Check.due("remove(3)", x.remove(3), -1);
        Check.due("size(2)", x.size(2), -1);
        Check.due("value(2, 0)", x.value(2, 0), -1);
        Check.due("value(1, 3)", x.value(1, 3), -1);
        Check.due("where(2, 0)", x.where(2, 0), -1);
        Check.due("where(2, 4): -1 comes before -2", x.where(2, 4), -1);
        Check.due("where(1, 4)", x.where(1, 4), -2);
        Check.due("where(1, -1)", x.where(1, -1), -2);
        Check.isTrue("all is the same", before.equals(Check.snapshot(x)));
        Check.due("feed(1, 1)", x.feed(1, 1), 2);
    }

    /** A cut that is refused leaves what an earlier one told: both its SECTOR and its octets. */
    private static void keepsTheCut() {
        Run x = new Run();
        Check.put(x, 1, 60);
        x.cut(2, 5);
        Check.due("cut(1, 64)", x.cut(1, 64), -2);
        Check.due("cut(10001, 9)", x.cut(10001, 9), -2);
        Check.due("cut(0, -1)", x.cut(0, -1), -2);
        Check.due("sync()", x.sync(), -5);
        Check.due("told(8)", x.told(8), 1);
        Check.due("disk(8, 68)", x.disk(8, 68), 47);
        Check.due("disk(8, 69)", x.disk(8, 69), 0);
    }
}

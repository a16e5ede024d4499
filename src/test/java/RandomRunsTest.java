import java.util.Arrays;
import java.util.Random;

/** Promises 1 to 10 together: long runs of calls, drawn from a fixed seed, beside a plain model of them. */
public final class RandomRunsTest {
    private static final int RUNS = 150;
    private static final int CALLS = 512;
    private static final int THROWS_RANGE = -1001;
    private static final int THROWS_PLACE = -1002;

    private final Random random;
    private final SpongeDigests x = new SpongeDigests();
    private final byte[][] slots = new byte[8][0];
    private byte[] tape = new byte[0];

    private RandomRunsTest(long seed) {
        random = new Random(seed);
    }

    public static void main(String[] args) {
        for (int run = 0; run < RUNS; run++) {
            RandomRunsTest test = new RandomRunsTest(run);
            for (int call = 0; call < CALLS; call++) {
                test.step("run " + run + " call " + call);
            }
        }
        Check.finish();
    }

    private void step(String where) {
        int choice = random.nextInt(100);
        if (choice < 30) {
            feed(where);
        } else if (choice < 40) {
            end(where, slot(), size());
        } else if (choice < 48) {
            copy(where, slot(), slot());
        } else if (choice < 55) {
            resize(where, slot(), size());
        } else if (choice < 62) {
            alter(where, slot(), place(), random.nextInt(20) == 0 ? 256 : random.nextInt(256));
        } else if (choice < 66) {
            length(where, slot());
        } else if (choice < 80) {
            word(where, slot(), place());
        } else if (choice < 86) {
            same(where, slot(), slot());
        } else {
            digest(where, random.nextInt(40) == 0 ? random.nextInt(2) * 17 : 1 + random.nextInt(16), size());
        }
    }

    private int slot() {
        return random.nextInt(25) == 0 ? random.nextInt(2) * 9 - 1 : random.nextInt(8);
    }

    private int size() {
        switch (random.nextInt(12)) {
            case 0: return -1;
            case 1: return 8193;
            case 2: return 8192 - random.nextInt(3);
            case 3: return 0;
            case 4: return tape.length;
            case 5: return random.nextInt(2000);
            default: return random.nextInt(tape.length + 100);
        }
    }

    private int place() {
        byte[] some = slots[random.nextInt(8)];
        return random.nextInt(4) == 0 ? some.length - 1 + random.nextInt(2) : random.nextInt(some.length + 1);
    }

    private void feed(String where) {
        int[] v = {random.nextInt(), random.nextInt(), random.nextInt(), random.nextInt(), random.nextInt()};
        long due = THROWS_PLACE;
        if (tape.length + 20 <= 8192) {
            int before = tape.length;
            tape = Arrays.copyOf(tape, before + 20);
            for (int i = 0; i < 20; i++) {
                tape[before + i] = (byte) (v[i / 4] >> 24 - i % 4 * 8);
            }
            due = tape.length;
        }
        check(where + " feed", due, () -> x.feed(v[0], v[1], v[2], v[3], v[4]));
    }

    private void end(String where, int slot, int n) {
        long due = n;
        if (noSlot(slot) || noSize(n)) {
            due = THROWS_RANGE;
        } else if (tape.length < n) {
            due = THROWS_PLACE;
        } else {
            slots[slot] = Arrays.copyOf(tape, n);
            tape = new byte[0];
        }
        check(where + " end(" + slot + ", " + n + ")", due, () -> x.end(slot, n));
    }

    private void copy(String where, int from, int to) {
        long due = THROWS_RANGE;
        if (!noSlot(from) && !noSlot(to)) {
            slots[to] = slots[from].clone();
            due = slots[to].length;
        }
        check(where + " copy(" + from + ", " + to + ")", due, () -> x.copy(from, to));
    }

    private void resize(String where, int slot, int n) {
        long due = THROWS_RANGE;
        if (!noSlot(slot) && !noSize(n)) {
            due = slots[slot].length;
            slots[slot] = Arrays.copyOf(slots[slot], n);
        }
        check(where + " resize(" + slot + ", " + n + ")", due, () -> x.resize(slot, n));
    }

    private void alter(String where, int slot, int i, int v) {
        long due;
        if (noSlot(slot) || v < 0 || v > 255) {
            due = THROWS_RANGE;
        } else if (noPlace(slot, i)) {
            due = THROWS_PLACE;
        } else {
            slots[slot][i] ^= (byte) v;
            due = slots[slot][i] & 255;
        }
        check(where + " alter(" + slot + ", " + i + ", " + v + ")", due, () -> x.alter(slot, i, v));
    }

    private void length(String where, int slot) {
        long due = noSlot(slot) ? THROWS_RANGE : slots[slot].length;
        check(where + " length(" + slot + ")", due, () -> x.length(slot));
    }

    private void word(String where, int slot, int i) {
        long due = 0;
        if (noSlot(slot)) {
            due = THROWS_RANGE;
        } else if (noPlace(slot, i)) {
            due = THROWS_PLACE;
        } else {
            byte[] eight = Arrays.copyOfRange(slots[slot], i, i + 8);
            due = new java.math.BigInteger(eight).longValue();
        }
        check(where + " word(" + slot + ", " + i + ")", due, () -> x.word(slot, i));
    }

    private void same(String where, int slot, int other) {
        long due = THROWS_RANGE;
        if (!noSlot(slot) && !noSlot(other)) {
            due = Arrays.equals(slots[slot], slots[other]) ? 1 : 0;
        }
        check(where + " same(" + slot + ", " + other + ")", due, () -> x.same(slot, other) ? 1 : 0);
    }

    private void digest(String where, int kind, int n) {
        long due = THROWS_RANGE;
        if (kind >= 1 && kind <= 16 && !noSize(n)) {
            slots[6] = Reference.digest(kind, slots[0], slots[3], n);
            due = slots[6].length;
        }
        check(where + " digest(" + kind + ", " + n + ")", due, () -> x.digest(kind, n));
    }

    private static boolean noSlot(int slot) {
        return slot < 0 || slot > 7;
    }

    private static boolean noSize(int n) {
        return n < 0 || n > 8192;
    }

    private boolean noPlace(int slot, int i) {
        return i < 0 || i >= slots[slot].length;
    }

    private interface Answer {
        long get();
    }

    /** A refused call shows in the number that stands for its exception. */
    private static void check(String what, long due, Answer answer) {
        long got;
        try {
            got = answer.get();
        } catch (IllegalArgumentException e) {
            got = THROWS_RANGE;
        } catch (IndexOutOfBoundsException e) {
            got = THROWS_PLACE;
        }
        Check.equal(what, got, due);
    }
}

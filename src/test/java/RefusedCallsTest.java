import java.util.ArrayList;
import java.util.List;

/**
 * The last two sentences of the document's Terms: "What is thrown, in this order: IllegalArgumentException:
 * a number out of range; then as the call says. A call that throws changes nothing, but as said."
 * Every refused call is made on an object that holds nothing, one that holds some bytes, and a full one.
 */
public final class RefusedCallsTest {
    private static final int[] WRONG_SLOTS = {Integer.MIN_VALUE, -1, 8, Integer.MAX_VALUE};
    private static final int[] WRONG_SIZES = {Integer.MIN_VALUE, -1, 8193, Integer.MAX_VALUE};
    private static final int[] WRONG_VALUES = {Integer.MIN_VALUE, -1, 256, Integer.MAX_VALUE};
    private static final int[] WRONG_KINDS = {Integer.MIN_VALUE, -1, 0, 17, Integer.MAX_VALUE};

    private interface On {
        void run(SpongeDigests x);
    }

    private final String state;
    private final Held held;
    private final List<String> names = new ArrayList<>();
    private final List<On> calls = new ArrayList<>();

    private RefusedCallsTest(String state, Held held) {
        this.state = state;
        this.held = held;
    }

    public static void main(String[] args) {
        testOn("an empty object", Held.nothing());
        testOn("an object with some bytes", Held.some());
        testOn("a full object", Held.full());
        severalInARow();
        wrongInTwoWays();
        Check.finish();
    }

    private static void testOn(String state, Held held) {
        RefusedCallsTest range = new RefusedCallsTest(state, held);
        range.addWrongSlots();
        range.addWrongNumbers();
        range.addWrongDigests();
        range.testAll(Check.RANGE);
        RefusedCallsTest place = new RefusedCallsTest(state, held);
        place.addWrongPlaces();
        place.addWrongTape();
        place.testAll(Check.PLACE);
    }

    private void add(String name, On call) {
        names.add(name);
        calls.add(call);
    }

    private void addWrongSlots() {
        for (int slot : WRONG_SLOTS) {
            add("promise 3: end(" + slot + ", 0)", x -> x.end(slot, 0));
            add("promise 4: copy(" + slot + ", 1)", x -> x.copy(slot, 1));
            add("promise 4: copy(1, " + slot + ")", x -> x.copy(1, slot));
            add("promise 5: resize(" + slot + ", 2)", x -> x.resize(slot, 2));
            add("promise 6: alter(" + slot + ", 0, 1)", x -> x.alter(slot, 0, 1));
            add("promise 7: length(" + slot + ")", x -> x.length(slot));
            add("promise 8: word(" + slot + ", 0)", x -> x.word(slot, 0));
            add("promise 9: same(" + slot + ", 1)", x -> x.same(slot, 1));
            add("promise 9: same(1, " + slot + ")", x -> x.same(1, slot));
        }
    }

    private void addWrongNumbers() {
        for (int n : WRONG_SIZES) {
            add("promise 3: end(1, " + n + ")", x -> x.end(1, n));
            add("promise 5: resize(1, " + n + ")", x -> x.resize(1, n));
        }
        for (int v : WRONG_VALUES) {
            add("promise 6: alter(1, 0, " + v + ")", x -> x.alter(1, 0, v));
        }
    }

    private void addWrongDigests() {
        for (int kind : WRONG_KINDS) {
            add("promise 10: digest(" + kind + ", 20)", x -> x.digest(kind, 20));
        }
        for (int kind = 1; kind <= 16; kind++) {
            int right = kind;
            for (int n : WRONG_SIZES) {
                add("promise 10: digest(" + kind + ", " + n + ")", x -> x.digest(right, n));
            }
        }
    }

    private void addWrongPlaces() {
        for (int slot = 0; slot < 8; slot++) {
            int right = slot;
            int size = held.slots[slot].length;
            for (int i : new int[] {Integer.MIN_VALUE, -1, size, size + 1, 8192, Integer.MAX_VALUE}) {
                add("promise 6: alter(" + slot + ", " + i + ", 1)", x -> x.alter(right, i, 1));
                add("promise 8: word(" + slot + ", " + i + ")", x -> x.word(right, i));
            }
        }
    }

    private void addWrongTape() {
        int size = held.tape.length;
        add("promise 3: end one too many", x -> x.end(1, size + 1));
        add("promise 3: end the most", x -> x.end(1, 8192));
        if (size + 20 > 8192) {
            add("promise 2: feed", x -> x.feed(1, 2, 3, 4, 5));
        }
    }

    private void testAll(Class<? extends Exception> due) {
        for (int i = 0; i < calls.size(); i++) {
            String what = names.get(i) + " on " + state;
            On call = calls.get(i);
            held.check(what, () -> {
                SpongeDigests x = held.make();
                Check.refuses(what, due, () -> call.run(x));
                return x;
            });
        }
    }

    private static void severalInARow() {
        Held held = Held.some();
        held.check("refused calls in a row", () -> {
            SpongeDigests x = held.make();
            for (int i = 0; i < 10; i++) {
                Check.refuses("promise 3: in a row", Check.PLACE, () -> x.end(3, 41));
                Check.refuses("promise 5: in a row", Check.RANGE, () -> x.resize(3, 8193));
                Check.refuses("promise 6: in a row", Check.PLACE, () -> x.alter(3, 18, 255));
                Check.refuses("promise 6: in a row", Check.RANGE, () -> x.alter(3, 0, 256));
                Check.refuses("promise 10: in a row", Check.RANGE, () -> x.digest(11, 8193));
            }
            return x;
        });
    }

    /** A number out of range comes first, before a place or a tape that has not enough. */
    private static void wrongInTwoWays() {
        for (Held held : new Held[] {Held.nothing(), Held.some(), Held.full()}) {
            held.check("wrong in two ways", () -> {
                SpongeDigests x = held.make();
                refuseInTwoWays(x);
                return x;
            });
        }
    }

    private static void refuseInTwoWays(SpongeDigests x) {
        Check.refuses("promise 3: slot and tape", Check.RANGE, () -> x.end(8, 8192));
        Check.refuses("promise 3: slot and tape", Check.RANGE, () -> x.end(-1, 8192));
        Check.refuses("promise 3: n and tape", Check.RANGE, () -> x.end(0, 8193));
        Check.refuses("promise 3: slot and n", Check.RANGE, () -> x.end(8, 8193));
        Check.refuses("promise 6: slot and place", Check.RANGE, () -> x.alter(8, 8192, 1));
        Check.refuses("promise 6: slot and place", Check.RANGE, () -> x.alter(-1, -1, 1));
        Check.refuses("promise 6: v and place behind", Check.RANGE, () -> x.alter(0, 8192, 256));
        Check.refuses("promise 6: v and place before", Check.RANGE, () -> x.alter(0, -1, -1));
        Check.refuses("promise 8: slot and place", Check.RANGE, () -> x.word(8, 8192));
        Check.refuses("promise 8: slot and place", Check.RANGE, () -> x.word(-1, -1));
        Check.refuses("promise 10: kind and n", Check.RANGE, () -> x.digest(17, 8193));
        Check.refuses("promise 10: kind and n", Check.RANGE, () -> x.digest(0, -1));
    }
}

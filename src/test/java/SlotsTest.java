import java.util.Arrays;

/** Promises 1 to 9: the tape, the slots, and what may not be done with them. */
public final class SlotsTest {
    private static final int[] WRONG_SLOTS = {-1, 8, 9, 256, Integer.MIN_VALUE, Integer.MAX_VALUE};
    private static final int[] WRONG_SIZES = {-1, 8193, 65536, Integer.MIN_VALUE, Integer.MAX_VALUE};

    private SlotsTest() {
    }

    public static void main(String[] args) {
        newObject();
        objectsAreApart();
        feedAnswersAndOrder();
        feedToTheBrim();
        endTakesTheFirst();
        endRefuses();
        copyIsApart();
        copyToItself();
        copyRefuses();
        resizeCutsAndFills();
        resizeRefuses();
        alterChangesOneByte();
        alterRefuses();
        lengthAnswers();
        wordReads();
        wordRefuses();
        sameCompares();
        sameRefuses();
        Check.finish();
    }

    private static void newObject() {
        SpongeDigests x = new SpongeDigests();
        for (int slot = 0; slot < 8; slot++) {
            int at = slot;
            Check.equal("promise 1: length of a new slot " + slot, x.length(slot), 0);
            Check.refuses("promise 1: word of a new slot " + slot, Check.PLACE, () -> x.word(at, 0));
        }
        Check.refuses("promise 1: end on a new tape", Check.PLACE, () -> x.end(0, 1));
        Check.equal("promise 1: end of nothing", x.end(0, 0), 0);
        Check.equal("promise 1: first feed", x.feed(1, 2, 3, 4, 5), 20);
    }

    private static void objectsAreApart() {
        SpongeDigests x = new SpongeDigests();
        SpongeDigests y = new SpongeDigests();
        Check.load(x, 2, Check.pattern(40, 1));
        x.feed(1, 2, 3, 4, 5);
        Check.equal("promise 1: another object's slot", y.length(2), 0);
        Check.equal("promise 1: another object's tape", y.feed(1, 2, 3, 4, 5), 20);
        Check.equal("promise 1: a later object's slot", new SpongeDigests().length(2), 0);
    }

    private static void feedAnswersAndOrder() {
        SpongeDigests x = new SpongeDigests();
        Check.equal("promise 2: one feed", x.feed(0x01020304, 0x05060708, 0x090a0b0c, 0x0d0e0f10, 0x11121314), 20);
        Check.equal("promise 2: two feeds", x.feed(-1, Integer.MIN_VALUE, Integer.MAX_VALUE, 0, 0x80ff7f01), 40);
        x.end(0, 40);
        Check.equal("promise 2: bytes", Check.read(x, 0), Check.fromHex(
            "0102030405060708090a0b0c0d0e0f1011121314" + "ffffffff800000007fffffff0000000080ff7f01"));
    }

    private static void feedToTheBrim() {
        SpongeDigests x = new SpongeDigests();
        for (int i = 1; i <= 409; i++) {
            Check.equal("promise 2: feed " + i, x.feed(i, i, i, i, i), 20 * i);
        }
        Check.refuses("promise 2: feed 410", Check.PLACE, () -> x.feed(-1, -1, -1, -1, -1));
        Check.refuses("promise 2: feed 410 again", Check.PLACE, () -> x.feed(-1, -1, -1, -1, -1));
        Check.refuses("promise 3: more than was fed", Check.PLACE, () -> x.end(7, 8181));
        Check.refuses("promise 3: the most there can be", Check.PLACE, () -> x.end(7, 8192));
        Check.equal("promise 3: all that was fed", x.end(7, 8180), 8180);
        Check.equal("promise 2: the last bytes", x.word(7, 8172), 409L << 32 | 409L);
        Check.equal("promise 2: feed after the end", x.feed(7, 7, 7, 7, 7), 20);
    }

    private static void endTakesTheFirst() {
        SpongeDigests x = new SpongeDigests();
        byte[] bytes = Check.pattern(100, 2);
        Check.load(x, 4, bytes);
        Check.equal("promise 3: all", Check.read(x, 4), bytes);
        Check.load(x, 4, Arrays.copyOf(bytes, 33));
        Check.equal("promise 3: fewer than before, and not a multiple", Check.read(x, 4), Arrays.copyOf(bytes, 33));
        x.feed(1, 2, 3, 4, 5);
        Check.equal("promise 3: the answer", x.end(5, 7), 7);
        Check.equal("promise 3: length", x.length(5), 7);
        Check.refuses("promise 3: what was behind is gone", Check.PLACE, () -> x.end(5, 1));
        Check.equal("promise 3: the tape begins anew", x.feed(9, 8, 7, 6, 5), 20);
        Check.equal("promise 3: none of them", x.end(5, 0), 0);
        Check.equal("promise 3: an empty slot", x.length(5), 0);
        Check.refuses("promise 3: end 0 empties the tape", Check.PLACE, () -> x.end(5, 1));
        Check.equal("promise 3: other slots stay", Check.read(x, 4), Arrays.copyOf(bytes, 33));
    }

    private static void endRefuses() {
        SpongeDigests x = new SpongeDigests();
        Check.load(x, 0, Check.pattern(10, 3));
        x.feed(1, 2, 3, 4, 5);
        for (int slot : WRONG_SLOTS) {
            Check.refuses("promise 3: slot " + slot, Check.RANGE, () -> x.end(slot, 1));
            Check.refuses("promise 3: slot before the tape " + slot, Check.RANGE, () -> x.end(slot, 21));
        }
        for (int n : WRONG_SIZES) {
            Check.refuses("promise 3: n " + n, Check.RANGE, () -> x.end(0, n));
        }
        Check.refuses("promise 3: one too many", Check.PLACE, () -> x.end(0, 21));
        Check.equal("promise 3: the slot stays", Check.read(x, 0), Check.pattern(10, 3));
        Check.equal("promise 3: the tape stays", x.end(0, 20), 20);
        Check.equal("promise 3: its bytes stay", x.word(0, 0), 1L << 32 | 2L);
    }

    private static void copyIsApart() {
        SpongeDigests x = new SpongeDigests();
        byte[] bytes = Check.pattern(50, 4);
        Check.load(x, 0, bytes);
        Check.load(x, 7, Check.pattern(90, 5));
        Check.equal("promise 4: the answer", x.copy(0, 7), 50);
        Check.equal("promise 4: to", Check.read(x, 7), bytes);
        Check.equal("promise 4: from", Check.read(x, 0), bytes);
        x.alter(0, 3, 255);
        Check.equal("promise 4: from changes, to does not", Check.read(x, 7), bytes);
        x.alter(0, 3, 255);
        x.alter(7, 4, 1);
        Check.equal("promise 4: to changes, from does not", Check.read(x, 0), bytes);
        Check.equal("promise 4: of an empty slot", x.copy(1, 7), 0);
        Check.equal("promise 4: to is empty", x.length(7), 0);
    }

    private static void copyToItself() {
        SpongeDigests x = new SpongeDigests();
        byte[] bytes = Check.pattern(50, 6);
        Check.load(x, 2, bytes);
        Check.equal("promise 4: to itself", x.copy(2, 2), 50);
        Check.equal("promise 4: itself", Check.read(x, 2), bytes);
        x.resize(2, 8192);
        Check.equal("promise 4: the most", x.copy(2, 3), 8192);
        Check.holds("promise 4: the most is the same", x.same(2, 3));
    }

    private static void copyRefuses() {
        SpongeDigests x = new SpongeDigests();
        Check.load(x, 0, Check.pattern(10, 7));
        for (int slot : WRONG_SLOTS) {
            Check.refuses("promise 4: from " + slot, Check.RANGE, () -> x.copy(slot, 0));
            Check.refuses("promise 4: to " + slot, Check.RANGE, () -> x.copy(0, slot));
            Check.refuses("promise 4: both " + slot, Check.RANGE, () -> x.copy(slot, slot));
        }
        Check.equal("promise 4: nothing changed", Check.read(x, 0), Check.pattern(10, 7));
    }

    private static void resizeCutsAndFills() {
        SpongeDigests x = new SpongeDigests();
        byte[] bytes = Check.pattern(60, 8);
        Check.load(x, 1, bytes);
        Check.equal("promise 5: cut", x.resize(1, 21), 60);
        Check.equal("promise 5: the first ones", Check.read(x, 1), Arrays.copyOf(bytes, 21));
        Check.equal("promise 5: fill", x.resize(1, 45), 21);
        byte[] filled = Arrays.copyOf(Arrays.copyOf(bytes, 21), 45);
        Check.equal("promise 5: zeros, not what was there", Check.read(x, 1), filled);
        Check.equal("promise 5: as it is", x.resize(1, 45), 45);
        Check.equal("promise 5: to the most", x.resize(1, 8192), 45);
        Check.equal("promise 5: the most", x.length(1), 8192);
        Check.equal("promise 5: the last byte", x.word(1, 8191), 0);
        Check.equal("promise 5: the last byte can be altered", x.alter(1, 8191, 200), 200);
        Check.equal("promise 5: to none", x.resize(1, 0), 8192);
        Check.equal("promise 5: none", x.length(1), 0);
        Check.equal("promise 5: back", x.resize(1, 8192), 0);
        Check.equal("promise 5: zeros at the front", x.word(1, 0), 0);
        Check.equal("promise 5: zero at the back", x.word(1, 8191), 0);
        x.resize(2, 8192);
        Check.holds("promise 5: zeros all over", x.same(1, 2));
        zerosBehindEachWayToShrink(x);
    }

    private static void zerosBehindEachWayToShrink(SpongeDigests x) {
        Check.load(x, 5, Check.pattern(80, 9));
        Check.load(x, 5, Check.pattern(5, 10));
        x.resize(5, 80);
        Check.equal("promise 5: zeros after end", Check.read(x, 5), Arrays.copyOf(Check.pattern(5, 10), 80));
        Check.load(x, 5, Check.pattern(80, 9));
        Check.load(x, 4, Check.pattern(5, 10));
        x.copy(4, 5);
        x.resize(5, 80);
        Check.equal("promise 5: zeros after copy", Check.read(x, 5), Arrays.copyOf(Check.pattern(5, 10), 80));
        Check.load(x, 6, Check.pattern(80, 9));
        x.digest(4, 0);
        byte[] short28 = Check.read(x, 6);
        x.resize(6, 80);
        Check.equal("promise 5: zeros after digest", Check.read(x, 6), Arrays.copyOf(short28, 80));
    }

    private static void resizeRefuses() {
        SpongeDigests x = new SpongeDigests();
        Check.load(x, 0, Check.pattern(10, 11));
        for (int slot : WRONG_SLOTS) {
            Check.refuses("promise 5: slot " + slot, Check.RANGE, () -> x.resize(slot, 0));
        }
        for (int n : WRONG_SIZES) {
            Check.refuses("promise 5: n " + n, Check.RANGE, () -> x.resize(0, n));
        }
        Check.equal("promise 5: nothing changed", Check.read(x, 0), Check.pattern(10, 11));
    }

    private static void alterChangesOneByte() {
        SpongeDigests x = new SpongeDigests();
        byte[] bytes = Check.pattern(30, 12);
        bytes[0] = 0x0f;
        bytes[29] = (byte) 0x80;
        Check.load(x, 6, bytes);
        Check.equal("promise 6: the first", x.alter(6, 0, 0xff), 0xf0);
        Check.equal("promise 6: the last", x.alter(6, 29, 0x7f), 0xff);
        Check.equal("promise 6: by nothing", x.alter(6, 29, 0), 0xff);
        bytes[0] = (byte) 0xf0;
        bytes[29] = (byte) 0xff;
        Check.equal("promise 6: the others stay", Check.read(x, 6), bytes);
        Check.equal("promise 6: back", x.alter(6, 0, 0xff), 0x0f);
    }

    private static void alterRefuses() {
        SpongeDigests x = new SpongeDigests();
        Check.load(x, 0, Check.pattern(10, 13));
        for (int slot : WRONG_SLOTS) {
            Check.refuses("promise 6: slot " + slot, Check.RANGE, () -> x.alter(slot, 0, 1));
            Check.refuses("promise 6: slot before place " + slot, Check.RANGE, () -> x.alter(slot, -1, 1));
        }
        for (int v : new int[] {-1, 256, Integer.MIN_VALUE, Integer.MAX_VALUE}) {
            Check.refuses("promise 6: v " + v, Check.RANGE, () -> x.alter(0, 0, v));
            Check.refuses("promise 6: v before place " + v, Check.RANGE, () -> x.alter(0, 10, v));
        }
        for (int i : new int[] {-1, 10, 8191, 8192, Integer.MIN_VALUE, Integer.MAX_VALUE}) {
            Check.refuses("promise 6: place " + i, Check.PLACE, () -> x.alter(0, i, 1));
        }
        Check.refuses("promise 6: an empty slot", Check.PLACE, () -> x.alter(1, 0, 0));
        Check.equal("promise 6: nothing changed", Check.read(x, 0), Check.pattern(10, 13));
    }

    private static void lengthAnswers() {
        SpongeDigests x = new SpongeDigests();
        Check.load(x, 3, Check.pattern(123, 14));
        Check.equal("promise 7: length", x.length(3), 123);
        Check.equal("promise 7: again", x.length(3), 123);
        Check.equal("promise 7: of another", x.length(4), 0);
        for (int slot : WRONG_SLOTS) {
            Check.refuses("promise 7: slot " + slot, Check.RANGE, () -> x.length(slot));
        }
    }

    private static void wordReads() {
        SpongeDigests x = new SpongeDigests();
        Check.load(x, 2, Check.fromHex("8182838485868788898a8b8c8d8e8f90ffff"));
        x.resize(2, 16);
        Check.equal("promise 8: the first", x.word(2, 0), 0x8182838485868788L);
        Check.equal("promise 8: any place", x.word(2, 3), 0x8485868788898a8bL);
        Check.equal("promise 8: the last eight", x.word(2, 8), 0x898a8b8c8d8e8f90L);
        Check.equal("promise 8: zeros behind", x.word(2, 9), 0x8a8b8c8d8e8f9000L);
        Check.equal("promise 8: the last byte", x.word(2, 15), 0x9000000000000000L);
        x.resize(2, 8192);
        x.alter(2, 8191, 1);
        Check.equal("promise 8: the last byte of all", x.word(2, 8191), 1L << 56);
        Check.equal("promise 8: the last eight of all", x.word(2, 8184), 1L);
    }

    private static void wordRefuses() {
        SpongeDigests x = new SpongeDigests();
        Check.load(x, 0, Check.pattern(10, 15));
        for (int slot : WRONG_SLOTS) {
            Check.refuses("promise 8: slot " + slot, Check.RANGE, () -> x.word(slot, 0));
            Check.refuses("promise 8: slot before place " + slot, Check.RANGE, () -> x.word(slot, -1));
        }
        for (int i : new int[] {-1, 10, 8192, Integer.MIN_VALUE, Integer.MAX_VALUE}) {
            Check.refuses("promise 8: place " + i, Check.PLACE, () -> x.word(0, i));
        }
        x.resize(0, 8192);
        Check.refuses("promise 8: behind the most", Check.PLACE, () -> x.word(0, 8192));
    }

    private static void sameCompares() {
        SpongeDigests x = new SpongeDigests();
        Check.holds("promise 9: two empty slots", x.same(0, 1));
        Check.load(x, 0, Check.pattern(40, 16));
        Check.holds("promise 9: one empty", !x.same(0, 1) && !x.same(1, 0));
        Check.load(x, 1, Check.pattern(40, 16));
        Check.holds("promise 9: the same bytes", x.same(0, 1) && x.same(1, 0));
        Check.holds("promise 9: itself", x.same(0, 0));
        for (int i = 0; i < 40; i++) {
            x.alter(1, i, 128);
            Check.holds("promise 9: byte " + i + " differs", !x.same(0, 1) && !x.same(1, 0));
            x.alter(1, i, 128);
        }
        x.resize(1, 41);
        Check.holds("promise 9: a zero more", !x.same(0, 1) && !x.same(1, 0));
        x.resize(1, 40);
        Check.holds("promise 9: the same again", x.same(0, 1));
        x.resize(0, 39);
        x.resize(1, 39);
        Check.holds("promise 9: bytes behind the end do not count", x.same(0, 1));
    }

    private static void sameRefuses() {
        SpongeDigests x = new SpongeDigests();
        for (int slot : WRONG_SLOTS) {
            Check.refuses("promise 9: slot " + slot, Check.RANGE, () -> x.same(slot, 0));
            Check.refuses("promise 9: other " + slot, Check.RANGE, () -> x.same(0, slot));
            Check.refuses("promise 9: both " + slot, Check.RANGE, () -> x.same(slot, slot));
        }
    }
}

import java.nio.ByteBuffer;
import java.util.Arrays;

/**
 * The boundary cases of the document's Terms on slots and tape, and of promises 1 to 9: what is the
 * least, the most, empty or full. Each test's comment is the sentence it holds to. What is refused,
 * and that it changes nothing, is in RefusedCallsTest too.
 */
public final class SlotEdgesTest {
    private static final int MESSAGE = 3;
    private static final int MOST = 8192;

    private SlotEdgesTest() {
    }

    public static void main(String[] args) {
        slotsAreNumbered();
        slotsHoldTheMostAllAtOnce();
        tapeHoldsTheMost();
        tapeIsCountedAnew();
        newObjectIsEmpty();
        feedTakesAnyInts();
        endOfNone();
        endOfAll();
        endOfTooMany();
        endLeavesNothingBehind();
        copyOfNoneAndOfTheMost();
        copyToItself();
        resizeToNoneAndToTheMost();
        resizeByOne();
        alterFirstAndLast();
        alterByLeastAndMost();
        lengthOfNoneAndOfTheMost();
        wordAtTheEnd();
        wordOfShortSlots();
        sameOfNoneAndOfTheMost();
        sameByOneByte();
        Check.finish();
    }

    /** "SLOTS 0 .. 7". */
    private static void slotsAreNumbered() {
        SpongeDigests x = new SpongeDigests();
        for (int slot = 0; slot <= 7; slot++) {
            Check.equal("Terms: slot " + slot + " is there", x.resize(slot, slot + 1), 0);
        }
        for (int slot = 0; slot <= 7; slot++) {
            Check.equal("Terms: slot " + slot + " is its own", x.length(slot), slot + 1);
        }
        Check.refuses("Terms: no slot below 0", Check.RANGE, () -> x.length(-1));
        Check.refuses("Terms: no slot above 7", Check.RANGE, () -> x.length(8));
    }

    /** "SLOTS hold BYTES, at most 8192 each". */
    private static void slotsHoldTheMostAllAtOnce() {
        Held full = Held.full();
        full.check("Terms: all slots are full", full::make);
    }

    /** "The TAPE holds BYTES, too, at most 8192"; "it would have more than 8192: IndexOutOfBoundsException". */
    private static void tapeHoldsTheMost() {
        SpongeDigests x = new SpongeDigests();
        byte[] bytes = Check.pattern(8180, 1);
        Check.feedAll(x, Arrays.copyOf(bytes, 8160));
        ByteBuffer ints = ByteBuffer.wrap(bytes, 8160, 20);
        int answer = x.feed(ints.getInt(), ints.getInt(), ints.getInt(), ints.getInt(), ints.getInt());
        Check.equal("promise 2: 8180 is not too much", answer, 8180);
        Check.refuses("promise 2: 8200 is too much", Check.PLACE, () -> x.feed(0, 0, 0, 0, 0));
        Check.equal("promise 2: 8180 are there", x.end(MESSAGE, 8180), 8180);
        Held.checkMessage("promise 2: what came before the refused feed", x, bytes);
    }

    /** "it is empty (what was behind them is gone)": what is gone takes no place on the tape. */
    private static void tapeIsCountedAnew() {
        SpongeDigests x = new SpongeDigests();
        Check.feedAll(x, Check.pattern(1000, 2));
        x.end(1, 1);
        Check.feedAll(x, Check.pattern(8160, 3));
        Check.equal("promise 3: the whole tape is free again", x.feed(1, 2, 3, 4, 5), 8180);
        Check.refuses("promise 3: but no more than it", Check.PLACE, () -> x.feed(1, 2, 3, 4, 5));
        Check.equal("promise 3: a full tape ends", x.end(MESSAGE, 8160), 8160);
        Held.checkMessage("promise 3: none of what is gone", x, Check.pattern(8160, 3));
    }

    /** "All SLOTS and the TAPE are empty." */
    private static void newObjectIsEmpty() {
        Held.nothing().check("promise 1: a new object", SpongeDigests::new);
        SpongeDigests x = new SpongeDigests();
        for (int slot = 0; slot < 8; slot++) {
            int at = slot;
            Check.refuses("promise 1: no byte in slot " + slot, Check.PLACE, () -> x.word(at, 0));
            Check.refuses("promise 1: no byte to alter in slot " + slot, Check.PLACE, () -> x.alter(at, 0, 0));
            Check.holds("promise 1: slot " + slot + " is as slot 0", x.same(slot, 0));
        }
        Check.equal("promise 1: the tape is empty", x.feed(0, 0, 0, 0, 0), 20);
    }

    /** "The 20 BYTES of five ints, the highest of each first, come to the TAPE". */
    private static void feedTakesAnyInts() {
        SpongeDigests x = new SpongeDigests();
        Check.equal("promise 2: least and most", x.feed(Integer.MIN_VALUE, Integer.MAX_VALUE, -1, 0, 1), 20);
        Check.equal("promise 2: single bytes", x.feed(0xff000000, 0x00ff0000, 0x0000ff00, 0x000000ff, 128), 40);
        x.end(0, 40);
        Check.equal("promise 2: bytes of least and most", Check.read(x, 0), Check.fromHex(
            "800000007fffffffffffffff0000000000000001" + "ff00000000ff00000000ff00000000ff00000080"));
    }

    /** "n 0 .. 8192": 0. */
    private static void endOfNone() {
        SpongeDigests x = new SpongeDigests();
        Check.equal("promise 3: none of an empty tape", x.end(7, 0), 0);
        Check.load(x, 7, Check.pattern(30, 4));
        Check.equal("promise 3: none of an empty tape, into a slot", x.end(7, 0), 0);
        Check.equal("promise 3: the slot is empty then", x.length(7), 0);
        Check.load(x, 7, Check.pattern(30, 4));
        Check.feedAll(x, Check.pattern(20, 5));
        Check.equal("promise 3: none of a tape", x.end(7, 0), 0);
        Check.equal("promise 3: the slot is empty again", x.length(7), 0);
        Check.refuses("promise 3: the tape is empty too", Check.PLACE, () -> x.end(7, 1));
    }

    /** "Its first n BYTES are the SLOT": as many as the tape has, one fewer, and one alone. */
    private static void endOfAll() {
        byte[] bytes = Check.pattern(60, 6);
        for (int n : new int[] {1, 19, 20, 21, 59, 60}) {
            for (int slot : new int[] {0, 7}) {
                SpongeDigests x = new SpongeDigests();
                Check.load(x, slot, Check.pattern(80, 7));
                Check.feedAll(x, bytes);
                Check.equal("promise 3: answer for " + n, x.end(slot, n), n);
                Check.equal("promise 3: the first " + n, Check.read(x, slot), Arrays.copyOf(bytes, n));
                x.feed(-1, -1, -1, -1, -1);
                Check.equal("promise 3: apart from the tape", Check.read(x, slot), Arrays.copyOf(bytes, n));
            }
        }
    }

    /** "the TAPE has fewer: IndexOutOfBoundsException"; "n 0 .. 8192": 8192 is a number in range. */
    private static void endOfTooMany() {
        SpongeDigests x = new SpongeDigests();
        Check.refuses("promise 3: one of none", Check.PLACE, () -> x.end(0, 1));
        Check.refuses("promise 3: the most of none", Check.PLACE, () -> x.end(0, MOST));
        Check.refuses("promise 3: more than the most", Check.RANGE, () -> x.end(0, MOST + 1));
        Check.refuses("promise 3: less than none", Check.RANGE, () -> x.end(0, -1));
        x.feed(1, 2, 3, 4, 5);
        Check.refuses("promise 3: one too many", Check.PLACE, () -> x.end(0, 21));
        Check.equal("promise 3: not one too many", x.end(0, 20), 20);
        Check.refuses("promise 3: the same again", Check.PLACE, () -> x.end(0, 20));
    }

    /** "it is empty (what was behind them is gone)". */
    private static void endLeavesNothingBehind() {
        SpongeDigests x = new SpongeDigests();
        Check.feedAll(x, Check.pattern(100, 8));
        x.end(0, 1);
        Check.refuses("promise 3: nothing is left", Check.PLACE, () -> x.end(1, 1));
        Check.equal("promise 3: the next feed is the first", x.feed(1, 2, 3, 4, 5), 20);
        x.end(1, 20);
        Check.equal("promise 3: its bytes are the first", Check.read(x, 1),
            Check.fromHex("0000000100000002000000030000000400000005"));
    }

    /** "to becomes as from is. Answers its length." */
    private static void copyOfNoneAndOfTheMost() {
        SpongeDigests x = Held.full().make();
        x.resize(0, 0);
        Check.equal("promise 4: none over the most", x.copy(0, 7), 0);
        Check.equal("promise 4: it is empty", x.length(7), 0);
        Check.equal("promise 4: none over none", x.copy(7, 0), 0);
        Check.equal("promise 4: the most over none", x.copy(1, 0), MOST);
        Check.equal("promise 4: the most over the most", x.copy(2, 1), MOST);
        Check.holds("promise 4: it is as from is", x.same(1, 2));
        x.copy(0, MESSAGE);
        Held.checkMessage("promise 4: every byte of the most", x, Held.full().slots[1]);
        x.resize(4, 1);
        Check.equal("promise 4: one over the most", x.copy(4, 1), 1);
        Check.equal("promise 4: one and zeros behind it", x.word(1, 0), 5L << 56);
    }

    /** "from, to 0 .. 7": both may be the same. */
    private static void copyToItself() {
        Held[] states = {Held.nothing(), Held.some(), Held.full()};
        for (Held held : states) {
            held.check("promise 4: each slot to itself", () -> {
                SpongeDigests x = held.make();
                for (int slot = 0; slot < 8; slot++) {
                    Check.equal("promise 4: to itself", x.copy(slot, slot), held.slots[slot].length);
                }
                return x;
            });
        }
    }

    /** "n 0 .. 8192: the SLOT has n BYTES, the first ones it had, and zeros behind them." */
    private static void resizeToNoneAndToTheMost() {
        SpongeDigests x = new SpongeDigests();
        Check.load(x, MESSAGE, Check.pattern(8180, 9));
        Check.equal("promise 5: to the most", x.resize(MESSAGE, MOST), 8180);
        Check.equal("promise 5: the most", x.length(MESSAGE), MOST);
        Check.equal("promise 5: as it is", x.resize(MESSAGE, MOST), MOST);
        Held.checkMessage("promise 5: zeros behind", x, Arrays.copyOf(Check.pattern(8180, 9), MOST));
        Check.equal("promise 5: to none", x.resize(MESSAGE, 0), MOST);
        Check.equal("promise 5: none", x.length(MESSAGE), 0);
        Check.equal("promise 5: none again", x.resize(MESSAGE, 0), 0);
        Check.equal("promise 5: from none to the most", x.resize(MESSAGE, MOST), 0);
        Held.checkMessage("promise 5: zeros alone", x, new byte[MOST]);
        Check.refuses("promise 5: one more than the most", Check.RANGE, () -> x.resize(MESSAGE, MOST + 1));
        Check.refuses("promise 5: one less than none", Check.RANGE, () -> x.resize(MESSAGE, -1));
        Check.equal("promise 5: still the most", x.length(MESSAGE), MOST);
    }

    /** "the first ones it had, and zeros behind them": a byte that was cut off does not come back. */
    private static void resizeByOne() {
        SpongeDigests x = new SpongeDigests();
        byte[] bytes = Check.pattern(20, 10);
        bytes[19] = -1;
        Check.load(x, 5, bytes);
        Check.equal("promise 5: one fewer", x.resize(5, 19), 20);
        Check.equal("promise 5: one more", x.resize(5, 20), 19);
        bytes[19] = 0;
        Check.equal("promise 5: it is zero", Check.read(x, 5), bytes);
        x.resize(5, MOST);
        x.alter(5, MOST - 1, 255);
        x.resize(5, MOST - 1);
        Check.refuses("promise 5: the last one is cut off", Check.PLACE, () -> x.word(5, MOST - 1));
        x.resize(5, MOST);
        Check.equal("promise 5: the last one is zero", x.word(5, MOST - 1), 0);
    }

    /** "Byte i of a SLOT is v ^ what it is; there is none: IndexOutOfBoundsException." */
    private static void alterFirstAndLast() {
        SpongeDigests x = Held.some().make();
        byte[] bytes = Held.some().slots[7];
        int last = bytes.length - 1;
        Check.equal("promise 6: the first", x.alter(7, 0, 1), (bytes[0] ^ 1) & 255);
        Check.equal("promise 6: the last", x.alter(7, last, 2), (bytes[last] ^ 2) & 255);
        bytes[0] ^= 1;
        bytes[last] ^= 2;
        Check.equal("promise 6: no other", Check.read(x, 7), bytes);
        Check.refuses("promise 6: before the first", Check.PLACE, () -> x.alter(7, -1, 1));
        Check.refuses("promise 6: behind the last", Check.PLACE, () -> x.alter(7, last + 1, 1));
        x.resize(7, last);
        Check.refuses("promise 6: one that was cut off", Check.PLACE, () -> x.alter(7, last, 1));
        x.resize(7, MOST);
        Check.equal("promise 6: the last of the most", x.alter(7, MOST - 1, 9), 9);
        Check.refuses("promise 6: behind the most", Check.PLACE, () -> x.alter(7, MOST, 9));
        x.resize(7, 0);
        Check.refuses("promise 6: the first of none", Check.PLACE, () -> x.alter(7, 0, 0));
    }

    /** "v 0 .. 255"; "Answers what it is now": never less than 0. */
    private static void alterByLeastAndMost() {
        SpongeDigests x = new SpongeDigests();
        x.resize(0, 2);
        Check.equal("promise 6: 0 on 0", x.alter(0, 1, 0), 0);
        Check.equal("promise 6: 127 on 0", x.alter(0, 1, 127), 127);
        Check.equal("promise 6: 255 on 127", x.alter(0, 1, 255), 128);
        Check.equal("promise 6: 127 on 128", x.alter(0, 1, 127), 255);
        Check.equal("promise 6: 0 on 255", x.alter(0, 1, 0), 255);
        Check.equal("promise 6: 255 on 255", x.alter(0, 1, 255), 0);
        Check.refuses("promise 6: -1", Check.RANGE, () -> x.alter(0, 1, -1));
        Check.refuses("promise 6: 256", Check.RANGE, () -> x.alter(0, 1, 256));
        Check.equal("promise 6: all is as it was", x.word(0, 0), 0);
    }

    /** "How many BYTES." */
    private static void lengthOfNoneAndOfTheMost() {
        SpongeDigests x = new SpongeDigests();
        for (int slot : new int[] {0, 7}) {
            for (int n : new int[] {0, 1, 255, 256, MOST - 1, MOST}) {
                x.resize(slot, n);
                Check.equal("promise 7: " + n, x.length(slot), n);
            }
        }
    }

    /** "zeros behind the end; i is not one of the SLOT: IndexOutOfBoundsException." */
    private static void wordAtTheEnd() {
        SpongeDigests x = new SpongeDigests();
        Check.load(x, 1, Check.fromHex("f1f2f3f4f5f6f7f8f9fafbfcfdfeffe1e2e3e4e5"));
        x.resize(1, 10);
        Check.equal("promise 8: all eight are there", x.word(1, 2), 0xf3f4f5f6f7f8f9faL);
        Check.equal("promise 8: one is behind", x.word(1, 3), 0xf4f5f6f7f8f9fa00L);
        Check.equal("promise 8: seven are behind", x.word(1, 9), 0xfa00000000000000L);
        Check.refuses("promise 8: all are behind", Check.PLACE, () -> x.word(1, 10));
        Check.refuses("promise 8: before the first", Check.PLACE, () -> x.word(1, -1));
        x.resize(1, MOST);
        x.alter(1, MOST - 8, 0x81);
        x.alter(1, MOST - 1, 0x82);
        Check.equal("promise 8: eight at the end of the most", x.word(1, MOST - 8), 0x8100000000000082L);
        Check.equal("promise 8: seven at the end of the most", x.word(1, MOST - 7), 0x8200L);
        Check.equal("promise 8: one at the end of the most", x.word(1, MOST - 1), 0x82L << 56);
        Check.refuses("promise 8: behind the most", Check.PLACE, () -> x.word(1, MOST));
        Check.refuses("promise 8: a place far behind", Check.PLACE, () -> x.word(1, Integer.MAX_VALUE));
    }

    /** "8 BYTES from i on, the highest first, zeros behind the end": slots of fewer than eight. */
    private static void wordOfShortSlots() {
        long whole = 0xf1f2f3f4f5f6f7f8L;
        for (int n = 1; n <= 8; n++) {
            SpongeDigests x = new SpongeDigests();
            Check.load(x, 2, Check.fromHex("f1f2f3f4f5f6f7f8f9fa"));
            x.resize(2, n);
            long kept = whole & -1L << 64 - 8 * n;
            for (int i = 0; i < n; i++) {
                Check.equal("promise 8: place " + i + " of " + n, x.word(2, i), kept << 8 * i);
            }
            int behind = n;
            Check.refuses("promise 8: behind " + n, Check.PLACE, () -> x.word(2, behind));
        }
    }

    /** "Whether two SLOTS have the same BYTES." */
    private static void sameOfNoneAndOfTheMost() {
        SpongeDigests x = new SpongeDigests();
        Check.holds("promise 9: none and none", x.same(0, 7) && x.same(7, 0) && x.same(0, 0));
        x.resize(0, 1);
        Check.holds("promise 9: a zero and none", !x.same(0, 7) && !x.same(7, 0));
        x.resize(0, MOST);
        Check.holds("promise 9: the most and none", !x.same(0, 7) && !x.same(7, 0));
        x.resize(7, MOST - 1);
        Check.holds("promise 9: the most and one fewer", !x.same(0, 7) && !x.same(7, 0));
        x.resize(7, MOST);
        Check.holds("promise 9: the most and the most", x.same(0, 7) && x.same(7, 0) && x.same(7, 7));
        x.alter(7, MOST - 1, 1);
        Check.holds("promise 9: the last of the most", !x.same(0, 7) && !x.same(7, 0));
        x.alter(0, MOST - 1, 1);
        Check.holds("promise 9: the same last", x.same(0, 7) && x.same(7, 0));
    }

    /** "Whether two SLOTS have the same BYTES": one bit of one byte, and bytes that were cut off. */
    private static void sameByOneByte() {
        SpongeDigests x = new SpongeDigests();
        Check.load(x, 1, Check.pattern(9, 11));
        x.copy(1, 2);
        for (int i = 0; i < 9; i++) {
            for (int bit = 1; bit < 256; bit <<= 1) {
                x.alter(2, i, bit);
                Check.holds("promise 9: byte " + i + " by " + bit, !x.same(1, 2));
                x.alter(2, i, bit);
            }
        }
        x.alter(2, 8, 255);
        x.resize(1, 8);
        x.resize(2, 8);
        Check.holds("promise 9: what was cut off does not count", x.same(1, 2) && x.same(2, 1));
        x.resize(1, 9);
        x.resize(2, 9);
        Check.holds("promise 9: nor does it come back", x.same(1, 2) && x.same(2, 1));
    }
}

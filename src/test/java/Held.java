/** What an object is due to hold: eight slots and the tape. It can make such an object, and look at one. */
final class Held {
    /** Longer slots are made by resize and alter, for to feed them all takes more calls than an object has. */
    private static final int MOST_FED = 100;

    private static final int MESSAGE = 3;
    private static final int SHARED = 6;

    final byte[][] slots = new byte[8][0];
    byte[] tape = new byte[0];

    interface Maker {
        SpongeDigests make();
    }

    static Held nothing() {
        return new Held();
    }

    /** Each slot and the tape hold some bytes, and no two of them the same. */
    static Held some() {
        Held held = new Held();
        for (int slot = 0; slot < 8; slot++) {
            held.slots[slot] = Check.pattern(5 * slot + 3, slot + 1);
        }
        held.tape = Check.pattern(40, 9);
        return held;
    }

    /** Each slot holds as much as it can, the tape as much as whole feeds can bring. */
    static Held full() {
        Held held = new Held();
        for (int slot = 0; slot < 8; slot++) {
            held.slots[slot] = new byte[8192];
            held.slots[slot][0] = (byte) (slot + 1);
            held.slots[slot][8191] = (byte) (slot + 200);
        }
        held.tape = Check.pattern(8180, 10);
        return held;
    }

    SpongeDigests make() {
        SpongeDigests x = new SpongeDigests();
        for (int slot = 0; slot < 8; slot++) {
            if (slots[slot].length <= MOST_FED) {
                Check.load(x, slot, slots[slot]);
            } else {
                fill(x, slot);
            }
        }
        Check.feedAll(x, tape);
        return x;
    }

    private void fill(SpongeDigests x, int slot) {
        x.resize(slot, slots[slot].length);
        for (int i = 0; i < slots[slot].length; i++) {
            if (slots[slot][i] != 0) {
                x.alter(slot, i, slots[slot][i] & 255);
            }
        }
    }

    /** To look at a slot changes the object, so each slot and the tape get an object of their own. */
    void check(String what, Maker maker) {
        for (int slot = 0; slot < 8; slot++) {
            SpongeDigests x = maker.make();
            Check.equal(what + ": length of slot " + slot, x.length(slot), slots[slot].length);
            x.copy(slot, MESSAGE);
            checkMessage(what + ": bytes of slot " + slot, x, slots[slot]);
        }
        SpongeDigests x = maker.make();
        Check.refuses(what + ": the tape has no more", Check.PLACE, () -> x.end(MESSAGE, tape.length + 1));
        Check.equal(what + ": the tape has as many", x.end(MESSAGE, tape.length), tape.length);
        checkMessage(what + ": bytes of the tape", x, tape);
    }

    /** To read 8192 bytes takes more calls than an object has, so their SHA-256 stands for them. */
    static void checkMessage(String what, SpongeDigests x, byte[] due) {
        x.digest(1, 0);
        Check.equal(what + " (their SHA-256)", Check.read(x, SHARED), Reference.hash("SHA-256", due));
    }
}

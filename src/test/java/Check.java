import java.util.Arrays;

/** What the tests share: counting what is wrong, and bringing bytes into slots and out of them. */
final class Check {
    interface Call {
        void run();
    }

    static final Class<? extends Exception> RANGE = IllegalArgumentException.class;
    static final Class<? extends Exception> PLACE = IndexOutOfBoundsException.class;

    private static int wrong = 0;
    private static int made = 0;

    private Check() {
    }

    static void equal(String what, long got, long due) {
        made++;
        if (got != due) {
            complain(what + " answered " + got + ", due is " + due);
        }
    }

    static void equal(String what, byte[] got, byte[] due) {
        made++;
        if (!Arrays.equals(got, due)) {
            complain(what + " gave " + hex(got) + ", due is " + hex(due));
        }
    }

    static void holds(String what, boolean is) {
        made++;
        if (!is) {
            complain(what + " does not hold");
        }
    }

    /** The class must be the very one: a class below it is another exception. */
    static void refuses(String what, Class<? extends Exception> due, Call call) {
        made++;
        try {
            call.run();
        } catch (RuntimeException e) {
            if (e.getClass() != due) {
                complain(what + " throws " + e.getClass().getName() + ", due is " + due.getName());
            }
            return;
        }
        complain(what + " throws nothing, due is " + due.getName());
    }

    static void finish() {
        System.out.println(wrong + " of " + made + " checks are wrong");
        if (wrong != 0 || made == 0) {
            System.exit(1);
        }
    }

    /** Brings bytes into a slot; no more than 8180, the most that whole feeds can bring. */
    static void load(SpongeDigests x, int slot, byte[] bytes) {
        feedAll(x, bytes);
        x.end(slot, bytes.length);
    }

    /** Brings bytes to the tape, and zeros behind them to a multiple of 20. */
    static void feedAll(SpongeDigests x, byte[] bytes) {
        byte[] fed = Arrays.copyOf(bytes, (bytes.length + 19) / 20 * 20);
        for (int i = 0; i < fed.length; i += 20) {
            x.feed(intAt(fed, i), intAt(fed, i + 4), intAt(fed, i + 8), intAt(fed, i + 12), intAt(fed, i + 16));
        }
    }

    /** All bytes of a slot, in one call for its length and one for each eight of them. */
    static byte[] read(SpongeDigests x, int slot) {
        byte[] bytes = new byte[x.length(slot)];
        for (int i = 0; i < bytes.length; i += 8) {
            long word = x.word(slot, i);
            for (int j = 0; j < 8 && i + j < bytes.length; j++) {
                bytes[i + j] = (byte) (word >>> 56 - 8 * j);
            }
        }
        return bytes;
    }

    /** Bytes that differ from place to place and from seed to seed. */
    static byte[] pattern(int count, int seed) {
        byte[] bytes = new byte[count];
        int value = seed * 1000003 + 12345;
        for (int i = 0; i < count; i++) {
            value = value * 1103515245 + 12345;
            bytes[i] = (byte) (value >>> 16);
        }
        return bytes;
    }

    static byte[] fromHex(String text) {
        byte[] bytes = new byte[text.length() / 2];
        for (int i = 0; i < bytes.length; i++) {
            bytes[i] = (byte) Integer.parseInt(text.substring(2 * i, 2 * i + 2), 16);
        }
        return bytes;
    }

    private static int intAt(byte[] bytes, int i) {
        return bytes[i] << 24 | (bytes[i + 1] & 255) << 16 | (bytes[i + 2] & 255) << 8 | bytes[i + 3] & 255;
    }

    private static String hex(byte[] bytes) {
        StringBuilder text = new StringBuilder();
        for (byte b : bytes) {
            text.append(String.format("%02x", b));
        }
        return text.toString();
    }

    private static void complain(String text) {
        wrong++;
        if (wrong <= 50) {
            System.out.println(text);
        }
    }
}

import java.nio.charset.StandardCharsets;
import java.util.Arrays;

/** Promise 10: the sixteen kinds, against known answers and against other means to work them out. */
public final class DigestTest {
    private static final int RANDOM = 0;
    private static final int MESSAGE = 3;
    private static final int SHARED = 6;

    /** How long the result of each kind is; -1 where n says it. */
    private static final int[] RESULTS = {0, 32, 48, 64, 28, 28, 32, 28, 32, 48, 64, -1, -1, 32, 64, -1, -1};

    /** Round the ends of blocks and of rates, and of what padding needs there. */
    private static final int[] LENGTHS = {
        0, 1, 2, 3, 8, 51, 52, 55, 56, 59, 60, 63, 64, 65, 71, 72, 73, 103, 104, 105, 107, 108, 111, 112, 119, 120,
        123, 124, 127, 128, 129, 135, 136, 137, 143, 144, 145, 167, 168, 169, 191, 192, 239, 240, 255, 256, 257, 271,
        272, 273, 335, 336, 337, 1000, 1024, 4096, 8179, 8180,
    };

    private DigestTest() {
    }

    public static void main(String[] args) {
        referenceIsSound();
        knownAnswers();
        knownShake();
        knownHmac();
        everyKindAtEveryLength();
        lengthsOfResults();
        keysOfHmac();
        longestMessage();
        longestKey();
        nothingElseChanges();
        earlierCallsDoNotShow();
        refusals();
        Check.finish();
    }

    private static void referenceIsSound() {
        for (int length : LENGTHS) {
            byte[] x = Check.pattern(length, length);
            checkSponge(224, x);
            checkSponge(256, x);
            checkSponge(384, x);
            checkSponge(512, x);
        }
    }

    private static void checkSponge(int bits, byte[] x) {
        String name = "SHA3-" + bits;
        byte[] got = Reference.sponge(200 - bits / 4, 6, x, bits / 8);
        Check.equal("reference " + name + " of " + x.length, got, Reference.hash(name, x));
    }

    private static void knownAnswers() {
        String abc = "abc";
        known(1, 0, abc, "ba7816bf8f01cfea414140de5dae2223b00361a396177a9cb410ff61f20015ad");
        known(2, 0, abc, "cb00753f45a35e8bb5a03d699ac65007272c32ab0eded1631a8b605a43ff5bed"
            + "8086072ba1e7cc2358baeca134c825a7");
        known(3, 0, abc, "ddaf35a193617abacc417349ae20413112e6fa4e89a97ea20a9eeee64b55d39a"
            + "2192992a274fc1a836ba3c23a3feebbd454d4423643ce80e2a9ac94fa54ca49f");
        known(4, 0, abc, "23097d223405d8228642a477bda255b32aadbce4bda0b3f7e36c9da7");
        known(5, 0, abc, "4634270f707b6a54daae7530460842e20e37ed265ceee9a43e8924aa");
        known(6, 0, abc, "53048e2681941ef99b2e29b76b4c7dabe4c2d0c634fc6d46e0e2f13107e7af23");
        known(7, 0, abc, "e642824c3f8cf24ad09234ee7d3c766fc9a3a5168d0c94ad73b46fdf");
        known(8, 0, abc, "3a985da74fe225b2045c172d6bd390bd855f086e3e9d525b46bfe24511431532");
        known(9, 0, abc, "ec01498288516fc926459f58e2c6ad8df9b473cb0fc08c2596da7cf0e49be4b2"
            + "98d88cea927ac7f539f1edf228376d25");
        known(10, 0, abc, "b751850b1a57168a5693cd924b6b096e08f621827444f70d884f5d0240d2712e"
            + "10e116e9192af3c91a7ec57647e3934057340b4cf408d5a56592f8274eec53f0");
        known(1, 0, "", "e3b0c44298fc1c149afbf4c8996fb92427ae41e4649b934ca495991b7852b855");
        known(8, 0, "", "a7ffc6f8bf1ed76651c14756a061d662f580ff4de43b49fa82d80a4b80f8434a");
    }

    private static void knownShake() {
        known(11, 32, "", "7f9c2ba4e88f827d616045507605853ed73b8093f6efbc88eb1a6eacfa66ef26");
        known(12, 32, "", "46b9dd2b0ba88d13233b3feb743eeb243fcd52ea62b81b82b50c27646ed5762f");
        known(11, 16, "abc", "5881092dd818bf5cf8a3ddb793fbcba7");
        known(12, 16, "abc", "483366601360a8771c6863080cc4114d");
    }

    private static void knownHmac() {
        SpongeDigests x = new SpongeDigests();
        Check.load(x, RANDOM, text("Jefe"));
        Check.load(x, MESSAGE, text("what do ya want for nothing?"));
        Check.equal("promise 10: HMAC-SHA-256", x.digest(13, 0), 32);
        Check.equal("promise 10: HMAC-SHA-256", Check.read(x, SHARED), Check.fromHex(
            "5bdcc146bf60754e6a042426089575c75a003f089d2739839dec58b964ec3843"));
        Check.equal("promise 10: HMAC-SHA-512", x.digest(14, 0), 64);
        Check.equal("promise 10: HMAC-SHA-512", Check.read(x, SHARED), Check.fromHex(
            "164b7a7bfcf819e2e395fbe73b56e0a387bd64222e831fd610270cd7ea250554"
            + "9758bf75c05a994a6d034f65f8f0e6fdcaeab1a34d4a6b4b636e070a38bce737"));
    }

    private static void known(int kind, int n, String message, String due) {
        SpongeDigests x = new SpongeDigests();
        Check.load(x, MESSAGE, text(message));
        String what = "promise 10: kind " + kind + " of '" + message + "'";
        Check.equal(what, x.digest(kind, n), due.length() / 2);
        Check.equal(what, Check.read(x, SHARED), Check.fromHex(due));
    }

    private static void everyKindAtEveryLength() {
        for (int length : LENGTHS) {
            byte[] key = Check.pattern(20, length);
            byte[] message = Check.pattern(length, length + 1);
            for (int kind = 1; kind <= 16; kind++) {
                compare(loaded(key, message), kind, 100, key, message);
            }
        }
    }

    /** n decides for SHAKE and MGF1, and for no other kind. */
    private static void lengthsOfResults() {
        int[] sizes = {0, 1, 27, 28, 31, 32, 33, 63, 64, 65, 135, 136, 137, 167, 168, 169, 272, 273, 336, 337, 3000};
        byte[] key = Check.pattern(9, 1);
        byte[] message = Check.pattern(77, 2);
        for (int kind = 1; kind <= 16; kind++) {
            for (int n : sizes) {
                compare(loaded(key, message), kind, n, key, message);
            }
            SpongeDigests x = loaded(key, message);
            int most = RESULTS[kind] < 0 ? 8192 : RESULTS[kind];
            int least = RESULTS[kind] < 0 ? 0 : RESULTS[kind];
            Check.equal("promise 10: most of kind " + kind, x.digest(kind, 8192), most);
            checkByDigest(x, kind, Reference.digest(kind, key, message, 8192));
            Check.equal("promise 10: least of kind " + kind, x.digest(kind, 0), least);
            Check.equal("promise 10: length of the least of kind " + kind, x.length(SHARED), least);
        }
    }

    /** To read 8192 bytes takes more calls than an object has, so their SHA-256 stands for them. */
    private static void checkByDigest(SpongeDigests x, int kind, byte[] due) {
        x.copy(SHARED, 5);
        x.copy(MESSAGE, 4);
        x.copy(SHARED, MESSAGE);
        x.digest(1, 0);
        Check.equal("promise 10: all bytes of kind " + kind, Check.read(x, SHARED), Reference.hash("SHA-256", due));
        x.copy(4, MESSAGE);
        x.copy(5, SHARED);
    }

    private static void keysOfHmac() {
        byte[] message = Check.pattern(61, 3);
        for (int length : new int[] {0, 1, 31, 32, 33, 63, 64, 65, 66, 127, 128, 129, 130, 200, 256, 1000, 4000}) {
            byte[] key = Check.pattern(length, 4);
            compare(loaded(key, message), 13, 5, key, message);
            compare(loaded(key, message), 14, 5, key, message);
            compare(loaded(key, new byte[0]), 13, 5, key, new byte[0]);
            compare(loaded(key, new byte[0]), 14, 5, key, new byte[0]);
        }
    }

    private static void longestMessage() {
        byte[] key = Check.pattern(40, 5);
        byte[] message = Arrays.copyOf(Check.pattern(8180, 6), 8192);
        message[8191] = (byte) 0xa7;
        for (int kind = 1; kind <= 16; kind++) {
            SpongeDigests x = new SpongeDigests();
            Check.load(x, MESSAGE, Arrays.copyOf(message, 8180));
            x.resize(MESSAGE, 8192);
            x.alter(MESSAGE, 8191, 0xa7);
            Check.load(x, RANDOM, key);
            compare(x, kind, 70, key, message);
            x.digest(kind, 8192);
            checkByDigest(x, kind, Reference.digest(kind, key, message, 8192));
        }
    }

    private static void longestKey() {
        byte[] key = new byte[8192];
        key[8191] = 1;
        byte[] message = Check.pattern(30, 7);
        for (int kind = 13; kind <= 14; kind++) {
            SpongeDigests x = loaded(new byte[0], message);
            x.resize(RANDOM, 8192);
            x.alter(RANDOM, 8191, 1);
            compare(x, kind, 0, key, message);
        }
    }

    private static void nothingElseChanges() {
        for (int kind = 1; kind <= 16; kind++) {
            SpongeDigests x = new SpongeDigests();
            for (int slot = 0; slot < 8; slot++) {
                Check.load(x, slot, Check.pattern(150 + slot, slot));
            }
            x.feed(1, 2, 3, 4, 5);
            x.digest(kind, 99);
            for (int slot = 0; slot < 8; slot++) {
                if (slot != SHARED) {
                    Check.equal("promise 10: slot " + slot + " after kind " + kind,
                        Check.read(x, slot), Check.pattern(150 + slot, slot));
                }
            }
            Check.equal("promise 10: tape after kind " + kind, x.feed(1, 2, 3, 4, 5), 40);
        }
    }

    /** One object in every order of two kinds, a longer key and message first, then shorter ones. */
    private static void earlierCallsDoNotShow() {
        byte[] longKey = Check.pattern(300, 8);
        byte[] longMessage = Check.pattern(700, 9);
        byte[] key = Check.pattern(3, 10);
        byte[] message = Check.pattern(5, 11);
        for (int first = 1; first <= 16; first++) {
            for (int second = 1; second <= 16; second++) {
                SpongeDigests x = loaded(longKey, longMessage);
                x.digest(first, 1000);
                Check.load(x, RANDOM, key);
                Check.load(x, MESSAGE, message);
                compare(x, second, 40, key, message);
                compare(x, second, 40, key, message);
            }
        }
    }

    private static void refusals() {
        SpongeDigests x = loaded(Check.pattern(5, 12), Check.pattern(6, 13));
        Check.load(x, SHARED, Check.pattern(7, 14));
        for (int kind : new int[] {-1, 0, 17, 18, 256, Integer.MIN_VALUE, Integer.MAX_VALUE}) {
            Check.refuses("promise 10: kind " + kind, Check.RANGE, () -> x.digest(kind, 0));
            Check.refuses("promise 10: kind and n " + kind, Check.RANGE, () -> x.digest(kind, kind));
        }
        for (int kind = 1; kind <= 16; kind++) {
            int at = kind;
            for (int n : new int[] {-1, 8193, 65536, Integer.MIN_VALUE, Integer.MAX_VALUE}) {
                Check.refuses("promise 10: kind " + kind + " with n " + n, Check.RANGE, () -> x.digest(at, n));
            }
        }
        Check.equal("promise 10: nothing changed in RANDOM", Check.read(x, RANDOM), Check.pattern(5, 12));
        Check.equal("promise 10: nothing changed in MESSAGE", Check.read(x, MESSAGE), Check.pattern(6, 13));
        Check.equal("promise 10: nothing changed in SHARED", Check.read(x, SHARED), Check.pattern(7, 14));
    }

    private static SpongeDigests loaded(byte[] key, byte[] message) {
        SpongeDigests x = new SpongeDigests();
        Check.load(x, RANDOM, key);
        Check.load(x, MESSAGE, message);
        return x;
    }

    private static void compare(SpongeDigests x, int kind, int n, byte[] key, byte[] message) {
        String what = "promise 10: kind " + kind + ", n " + n + ", key " + key.length + ", message " + message.length;
        byte[] due = Reference.digest(kind, key, message, n);
        Check.equal(what, x.digest(kind, n), due.length);
        Check.equal(what, Check.read(x, SHARED), due);
    }

    private static byte[] text(String text) {
        return text.getBytes(StandardCharsets.ISO_8859_1);
    }
}

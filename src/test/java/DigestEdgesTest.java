import java.math.BigInteger;
import java.util.Arrays;

/**
 * The boundary cases of promise 10 and of the document's Terms on the sixteen functions. Each test's
 * comment is the sentence it holds to. Answers written out here come from another program (Python's
 * hashlib), so that they do not hang on the Java library or on Reference.
 */
public final class DigestEdgesTest {
    private static final int RANDOM = 0;
    private static final int MESSAGE = 3;
    private static final int SHARED = 6;
    private static final int MOST = 8192;

    /** How long the result of each kind is; -1 where n says it. */
    private static final int[] RESULTS = {0, 32, 48, 64, 28, 28, 32, 28, 32, 48, 64, -1, -1, 32, 64, -1, -1};
    private static final int[] KINDS_OF_N = {11, 12, 15, 16};

    /** The BYTES that a block (kinds 1 to 6 and 13 to 16) or a part of the sponge (R) takes, for each kind. */
    private static final int[] BLOCKS = {0, 64, 128, 128, 64, 128, 128, 144, 136, 104, 72, 168, 136, 64, 128, 64, 128};

    private DigestEdgesTest() {
    }

    public static void main(String[] args) {
        kindsFirstAndLast();
        leastAndMostOfN();
        onlyFourKindsUseN();
        noneAsked();
        emptyMessage();
        fullMessageAndKey();
        endsOfBlocks();
        lengthInThePadding();
        oneMoreZeroIsAnotherMessage();
        endsOfResults();
        lastCounter();
        counterAcrossBlocks();
        keysRoundABlock();
        zerosBehindAKey();
        longKeyIsItsHash();
        keyIsOfTwoKindsOnly();
        resultIsCutToItsLength();
        resultAsMessage();
        Check.finish();
    }

    /** "kind 1 .. 12: ..; 13, 14 ..; 15, 16 ..". */
    private static void kindsFirstAndLast() {
        SpongeDigests x = filled(Check.pattern(7, 1), Check.pattern(8, 2));
        for (int kind = 1; kind <= 16; kind++) {
            int due = RESULTS[kind] < 0 ? 10 : RESULTS[kind];
            Check.equal("promise 10: kind " + kind, x.digest(kind, 10), due);
            Check.equal("promise 10: length of kind " + kind, x.length(SHARED), due);
        }
        Check.refuses("promise 10: no kind 0", Check.RANGE, () -> x.digest(0, 10));
        Check.refuses("promise 10: no kind 17", Check.RANGE, () -> x.digest(17, 10));
    }

    /** "n 0 .. 8192, always". */
    private static void leastAndMostOfN() {
        byte[] key = Check.pattern(7, 3);
        byte[] message = Check.pattern(8, 4);
        for (int kind = 1; kind <= 16; kind++) {
            SpongeDigests x = filled(key, message);
            int at = kind;
            for (int n : new int[] {0, 1, MOST - 1, MOST}) {
                byte[] due = Reference.digest(kind, key, message, n);
                Check.equal("promise 10: kind " + kind + " takes " + n, x.digest(kind, n), due.length);
                checkShared("promise 10: kind " + kind + " of " + n, x, due);
                Check.load(x, MESSAGE, message);
            }
            Check.refuses("promise 10: kind " + kind + " refuses -1", Check.RANGE, () -> x.digest(at, -1));
            Check.refuses("promise 10: kind " + kind + " refuses 8193", Check.RANGE, () -> x.digest(at, MOST + 1));
        }
    }

    /** "(11, 12, 15, 16 alone use it". */
    private static void onlyFourKindsUseN() {
        for (int kind = 1; kind <= 16; kind++) {
            SpongeDigests x = filled(Check.pattern(7, 5), Check.pattern(8, 6));
            x.digest(kind, 0);
            x.copy(SHARED, 1);
            x.digest(kind, MOST);
            Check.holds("promise 10: whether kind " + kind + " uses n", x.same(SHARED, 1) == RESULTS[kind] >= 0);
        }
    }

    /** "0: SHARED is empty)", whatever it was before. */
    private static void noneAsked() {
        for (int kind : KINDS_OF_N) {
            SpongeDigests x = Held.full().make();
            Check.equal("promise 10: none of kind " + kind, x.digest(kind, 0), 0);
            Check.equal("promise 10: SHARED is empty", x.length(SHARED), 0);
            Check.refuses("promise 10: SHARED has no byte", Check.PLACE, () -> x.word(SHARED, 0));
            x.resize(SHARED, MOST);
            x.resize(1, 0);
            x.resize(1, MOST);
            Check.holds("promise 10: nothing of SHARED comes back", x.same(SHARED, 1));
        }
    }

    /** "Of MESSAGE (which may be empty)". */
    private static void emptyMessage() {
        ofNothing(1, "e3b0c44298fc1c149afbf4c8996fb92427ae41e4649b934ca495991b7852b855");
        ofNothing(2, "38b060a751ac96384cd9327eb1b1e36a21fdb71114be07434c0cc7bf63f6e1da"
            + "274edebfe76f65fbd51ad2f14898b95b");
        ofNothing(3, "cf83e1357eefb8bdf1542850d66d8007d620e4050b5715dc83f4a921d36ce9ce"
            + "47d0d13c5d85f2b0ff8318d2877eec2f63b931bd47417a81a538327af927da3e");
        ofNothing(4, "d14a028c2a3a2bc9476102bb288234c415a2b01f828ea62ac5b3e42f");
        ofNothing(5, "6ed0dd02806fa89e25de060c19d3ac86cabb87d6a0ddd05c333b84f4");
        ofNothing(6, "c672b8d1ef56ed28ab87c3622c5114069bdd3ad7b8f9737498d0c01ecef0967a");
        ofNothing(7, "6b4e03423667dbb73b6e15454f0eb1abd4597f9a1b078e3f5b5a6bc7");
        ofNothing(8, "a7ffc6f8bf1ed76651c14756a061d662f580ff4de43b49fa82d80a4b80f8434a");
        ofNothing(9, "0c63a75b845e4f7d01107d852e4c2485c51a50aaaa94fc61995e71bbee983a2a"
            + "c3713831264adb47fb6bd1e058d5f004");
        ofNothing(10, "a69f73cca23a9ac5c8b567dc185a756e97c982164fe25859e0d1dcc1475c80a6"
            + "15b2123af1f5f94c11e3e9402c3ac558f500199d95b6d3e301758586281dcd26");
        ofNothing(11, "7f9c2ba4e88f827d616045507605853ed73b8093f6efbc88eb1a6eacfa66ef263cb1eea988004b93");
        ofNothing(12, "46b9dd2b0ba88d13233b3feb743eeb243fcd52ea62b81b82b50c27646ed5762fd75dc4ddd8c0f200");
        ofNothing(13, "b613679a0814d9ec772f95d778c35fc5ff1697c493715653c6c712144292c5ad");
        ofNothing(14, "b936cee86c9f87aa5d3c6f2e84cb5a4239a5fe50480a6ec66b70ab5b1f4ac673"
            + "0c6c515421b327ec1d69402e53dfb49ad7381eb067b338fd7b0cb22247225d47");
        ofNothing(15, "df3f619804a92fdb4057192dc43dd748ea778adc52bc498ce80524c014b81119b40711a88c703975");
        ofNothing(16, "ec2d57691d9b2d40182ac565032054b7d784ba96b18bcb5be0bb4e70e3fb041e"
            + "ff582c8af66ee50256539f2181d7f9e53627c0189da7e75a4d5ef10ea93b20b357c365278e08");
    }

    /** Both on a new object and on one whose message and key were longer before. */
    private static void ofNothing(int kind, String due) {
        SpongeDigests x = new SpongeDigests();
        Check.equal("promise 10: kind " + kind + " of nothing", x.digest(kind, due.length() / 2), due.length() / 2);
        Check.equal("promise 10: kind " + kind + " of nothing", Check.read(x, SHARED), Check.fromHex(due));
        SpongeDigests y = filled(Check.pattern(200, 7), Check.pattern(200, 8));
        y.digest(kind, 100);
        y.resize(RANDOM, 0);
        y.resize(MESSAGE, 0);
        y.digest(kind, due.length() / 2);
        Check.equal("promise 10: kind " + kind + " of nothing any more", Check.read(y, SHARED), Check.fromHex(due));
    }

    /** "BYTES, at most 8192 each": a full MESSAGE, all bits 1, so that sums of words go round often. */
    private static void fullMessageAndKey() {
        ofOnes(1, "7d2c7ac4888bfd75cd5f56e8d61f69595121183afc81556c876732fd3782c62f");
        ofOnes(2, "2b0780a2aa79f20b9c5520fa8f43880905f65ffe007e46aea3121d20a5482103"
            + "b41bf8c974f8786219857e454249714c");
        ofOnes(3, "039d57ee223f9b37c119ef5592d5a2ea1ba16892a1b05fd04fc0c82b29441f32"
            + "61458937054a4294663f0c459a10f57b9205b7468a447961b1e5840e02928372");
        ofOnes(4, "06506ad7089bb0237b7793f1cd0236a6dc1cf5d2dd378007a6b2ab68");
        ofOnes(5, "c771bb80bc524f29faed29e83eaa5adb1bb00378b3a0996f8ba44979");
        ofOnes(6, "7ecfa582b9617686d9872592b54191f9c9cf097d8413b7cb2b7c9659e74bfcb2");
        ofOnes(7, "aa029e7d3ddb54decd284d19169a4849c65a86c6deb1b1aaafda0587");
        ofOnes(8, "f4878be4a054bd8bf600f4ee20dc10aecaaa0c7891eedc3878c98cd10e1f7424");
        ofOnes(9, "caa5cae43044d4cd57f50d6bd0f1620ce669c15c83e5704c8b25f55ac01565f1"
            + "f45ddc51bcd7cd9c2c062c77a9b6b207");
        ofOnes(10, "df89730ff6c9a3caa8980a02d668d4dd8040c2b908380cf3d2f57494f2573da0"
            + "587f9cb62dd485313e3ddca47f9d09a746d69498f4ebe164dd120f58840d15b2");
        ofOnes(11, "3c85e9fd45dc1f4039a485d31dbd26e0");
        ofOnes(12, "7d287e2e37671446213dbdc43371e344");
        ofOnes(13, "e907b0845c8247f960dcd38b1a8875cbd6aa2b31cb6aae58a9139039affb745a");
        ofOnes(14, "bb0a5e7a82cb66253f857b14bedbf963dd8d6e885d720ffeb8d6aa90e3f54afd"
            + "5f82d3eae69c5bcb97b9045bc998eb79b3e499413abcf528d51213ea13d0b9ec");
        ofOnes(15, "31b9dd298cf7d29ec6543a3f23603b1a");
        ofOnes(16, "bb9e439f9204f3728dc1983a973ed085");
    }

    /** What is due are the last BYTES of the longest result there can be. */
    private static void ofOnes(int kind, String due) {
        SpongeDigests x = filledWithOnes();
        int length = RESULTS[kind] < 0 ? MOST : RESULTS[kind];
        Check.equal("promise 10: kind " + kind + " of the most", x.digest(kind, MOST), length);
        for (int i = due.length() / 2; i > 0; i -= 4) {
            int at = due.length() - 2 * i;
            long word = Long.parseUnsignedLong(due.substring(at, at + 8), 16);
            String what = "promise 10: kind " + kind + ", " + i + " before the end";
            Check.equal(what, x.word(SHARED, length - i) >>> 32, word);
        }
    }

    /**
     * "x | s, then zeros up to a multiple of R, the last byte of all ^ 128" and "to whole blocks, as few as
     * can be": lengths round one, two and three blocks, and round those where the padding just has room.
     */
    private static void endsOfBlocks() {
        for (int kind = 1; kind <= 16; kind++) {
            for (int blocks = 1; blocks <= 3; blocks++) {
                int end = blocks * BLOCKS[kind];
                for (int length = end - 21; length <= end + 1; length++) {
                    compare(kind, 40, Check.pattern(11, 9), Check.pattern(length, length));
                }
            }
        }
    }

    /** "be(8 times the length of x, an eighth of a block)": where that number gets one byte more. */
    private static void lengthInThePadding() {
        for (int kind : new int[] {1, 2, 3, 4, 5, 6, 13, 14, 15, 16}) {
            for (int length : new int[] {0, 1, 30, 31, 32, 33, 8159, 8179, 8180}) {
                compare(kind, 40, Check.pattern(12, 10), Check.pattern(length, 11));
            }
            for (int length : new int[] {8181, 8190, 8191, MOST}) {
                compare(kind, 40, Check.pattern(12, 12), Arrays.copyOf(Check.pattern(8180, 13), length));
            }
        }
    }

    /** "x | s ..", "x | 128 ..": a zero more at the end of MESSAGE is another message. */
    private static void oneMoreZeroIsAnotherMessage() {
        for (int kind = 1; kind <= 16; kind++) {
            SpongeDigests x = new SpongeDigests();
            for (int length = 0; length <= 10; length++) {
                x.resize(MESSAGE, length);
                x.digest(kind, 20);
                x.copy(SHARED, 1);
                x.resize(MESSAGE, length + 1);
                x.digest(kind, 20);
                Check.holds("promise 10: kind " + kind + ", zeros " + length, !x.same(SHARED, 1));
            }
        }
    }

    /** "R of them, PERMUTE, R of them, .., n in all"; "the first n BYTES of h(x | be(0, 4)) | ..". */
    private static void endsOfResults() {
        byte[] message = Check.pattern(50, 14);
        int[] parts = {168, 136, 32, 64};
        for (int i = 0; i < KINDS_OF_N.length; i++) {
            for (int times : new int[] {1, 2, 3, MOST / parts[i]}) {
                for (int n = times * parts[i] - 1; n <= Math.min(MOST, times * parts[i] + 1); n++) {
                    compare(KINDS_OF_N[i], n, new byte[0], message);
                }
            }
            compare(KINDS_OF_N[i], 1, new byte[0], message);
            compare(KINDS_OF_N[i], MOST - 1, new byte[0], message);
            compare(KINDS_OF_N[i], MOST, new byte[0], message);
        }
    }

    /** "h(x | be(0, 4)) | h(x | be(1, 4)) | ..": the last that 8192 BYTES need, 255 or 127, whole and begun. */
    private static void lastCounter() {
        byte[] message = Check.pattern(20, 15);
        SpongeDigests x = filled(new byte[0], message);
        x.digest(15, MOST);
        byte[] last = Reference.hash("SHA-256", message, new byte[] {0, 0, 0, (byte) 255});
        checkEnd("promise 10: MGF1-SHA-256", x, last);
        x.digest(16, MOST);
        last = Reference.hash("SHA-512", message, new byte[] {0, 0, 0, 127});
        checkEnd("promise 10: MGF1-SHA-512", x, last);
        compare(15, MOST - 31, new byte[0], message);
        compare(16, MOST - 63, new byte[0], message);
    }

    private static void checkEnd(String what, SpongeDigests x, byte[] last) {
        for (int i = 0; i < last.length; i += 8) {
            long due = new BigInteger(Arrays.copyOfRange(last, i, i + 8)).longValue();
            Check.equal(what + ": the last counter", x.word(SHARED, MOST - last.length + i), due);
        }
    }

    /** "x | be(0, 4)": counters whose four bytes lie on both sides of a block's end, or fill it up. */
    private static void counterAcrossBlocks() {
        for (int kind = 15; kind <= 16; kind++) {
            for (int end : new int[] {BLOCKS[kind], 2 * BLOCKS[kind], 8128}) {
                for (int length = end - 5; length <= end + 1; length++) {
                    compare(kind, 200, new byte[0], Check.pattern(length, 16));
                }
            }
        }
    }

    /** "k longer than B becomes h(k); zeros up to B": keys round B, of none and of the most. */
    private static void keysRoundABlock() {
        for (int kind = 13; kind <= 14; kind++) {
            int block = BLOCKS[kind];
            for (int length : new int[] {0, 1, block / 2, block - 1, block, block + 1, 2 * block, 2 * block + 1}) {
                compare(kind, 0, Check.pattern(length, 17), Check.pattern(33, 18));
                compare(kind, 0, Check.pattern(length, 19), new byte[0]);
            }
            for (int length : new int[] {8180, 8191, MOST}) {
                compare(kind, 0, Arrays.copyOf(Check.pattern(90, 20), length), Check.pattern(33, 21));
            }
        }
    }

    /** "zeros up to B": a zero more is the same key up to B, and another one from there on. */
    private static void zerosBehindAKey() {
        for (int kind = 13; kind <= 14; kind++) {
            int block = BLOCKS[kind];
            SpongeDigests x = filled(Check.pattern(9, 22), Check.pattern(33, 23));
            x.digest(kind, 0);
            x.copy(SHARED, 1);
            for (int length : new int[] {10, block - 1, block}) {
                x.resize(RANDOM, length);
                x.digest(kind, 0);
                Check.holds("promise 10: kind " + kind + ", key " + length, x.same(SHARED, 1));
            }
            x.resize(RANDOM, block + 1);
            x.digest(kind, 0);
            Check.holds("promise 10: kind " + kind + ", key longer than a block", !x.same(SHARED, 1));
        }
    }

    /** "k longer than B becomes h(k)": one of exactly B does not. */
    private static void longKeyIsItsHash() {
        for (int kind = 13; kind <= 14; kind++) {
            for (int more = 0; more <= 1; more++) {
                byte[] key = Check.pattern(BLOCKS[kind] + more, 24);
                byte[] hash = Reference.hash(kind == 13 ? "SHA-256" : "SHA-512", key);
                SpongeDigests x = filled(key, Check.pattern(33, 25));
                x.digest(kind, 0);
                x.copy(SHARED, 1);
                Check.load(x, RANDOM, hash);
                x.digest(kind, 0);
                Check.holds("promise 10: kind " + kind + ", B and " + more, x.same(SHARED, 1) == (more == 1));
            }
        }
    }

    /** "13, 14 HMAC .. with RANDOM as k": no other kind looks at RANDOM. */
    private static void keyIsOfTwoKindsOnly() {
        for (int kind = 1; kind <= 16; kind++) {
            SpongeDigests x = filled(Check.pattern(9, 26), Check.pattern(33, 27));
            x.digest(kind, 50);
            x.copy(SHARED, 1);
            x.alter(RANDOM, 8, 1);
            x.digest(kind, 50);
            Check.holds("promise 10: RANDOM in kind " + kind, x.same(SHARED, 1) == (kind != 13 && kind != 14));
        }
    }

    /** "it is SHARED then. Answers its length": after a longer one nothing of that is left. */
    private static void resultIsCutToItsLength() {
        byte[] message = Check.pattern(30, 28);
        for (int kind = 1; kind <= 16; kind++) {
            SpongeDigests x = filled(new byte[0], message);
            x.digest(12, MOST);
            byte[] due = Reference.digest(kind, new byte[0], message, 5);
            Check.equal("promise 10: after the most, kind " + kind, x.digest(kind, 5), due.length);
            long last = (long) due[due.length - 1] << 56;
            Check.equal("promise 10: zeros behind the end", x.word(SHARED, due.length - 1), last);
            Check.refuses("promise 10: no byte behind", Check.PLACE, () -> x.word(SHARED, due.length));
            x.resize(SHARED, MOST);
            x.copy(SHARED, MESSAGE);
            Held.checkMessage("promise 10: zeros alone behind kind " + kind, x, Arrays.copyOf(due, MOST));
        }
    }

    /** "Of MESSAGE ..; it is SHARED then": MESSAGE stays, and SHARED can be the next one. */
    private static void resultAsMessage() {
        for (int kind = 1; kind <= 16; kind++) {
            byte[] message = new byte[0];
            SpongeDigests x = new SpongeDigests();
            for (int times = 0; times < 5; times++) {
                x.digest(kind, 33);
                message = Reference.digest(kind, new byte[0], message, 33);
                x.copy(SHARED, MESSAGE);
            }
            Check.equal("promise 10: kind " + kind + " five times over", Check.read(x, MESSAGE), message);
        }
    }

    private static SpongeDigests filled(byte[] key, byte[] message) {
        SpongeDigests x = new SpongeDigests();
        Check.load(x, RANDOM, key);
        Check.load(x, MESSAGE, message);
        return x;
    }

    private static SpongeDigests filledWithOnes() {
        SpongeDigests x = new SpongeDigests();
        byte[] ones = new byte[8180];
        Arrays.fill(ones, (byte) -1);
        Check.load(x, MESSAGE, ones);
        x.resize(MESSAGE, MOST);
        for (int i = 8180; i < MOST; i++) {
            x.alter(MESSAGE, i, 255);
        }
        x.copy(MESSAGE, RANDOM);
        return x;
    }

    /** Long keys and messages end in zeros here, as whole feeds bring no more than 8180 BYTES. */
    private static void compare(int kind, int n, byte[] key, byte[] message) {
        SpongeDigests x = new SpongeDigests();
        loadUpToMost(x, RANDOM, key);
        loadUpToMost(x, MESSAGE, message);
        String what = "promise 10: kind " + kind + ", n " + n + ", key " + key.length + ", message " + message.length;
        byte[] due = Reference.digest(kind, key, message, n);
        Check.equal(what, x.digest(kind, n), due.length);
        checkShared(what, x, due);
    }

    private static void loadUpToMost(SpongeDigests x, int slot, byte[] bytes) {
        int end = bytes.length;
        while (end > 0 && bytes[end - 1] == 0) {
            end--;
        }
        Check.load(x, slot, Arrays.copyOf(bytes, end));
        x.resize(slot, bytes.length);
    }

    private static void checkShared(String what, SpongeDigests x, byte[] due) {
        if (due.length <= 64) {
            Check.equal(what, Check.read(x, SHARED), due);
        } else {
            x.copy(SHARED, MESSAGE);
            Held.checkMessage(what, x, due);
        }
    }
}

/**
 * "(In FIPS numbers the wording here decides, if there were a difference.)": the sixteen kinds against the
 * document's words alone, neither the Java library nor a number of FIPS between them.
 */
public final class WordsTest {
    private static final int RANDOM = 0;
    private static final int MESSAGE = 3;
    private static final int SHARED = 6;

    private static final Words SHA_256 = Words.sha256();
    private static final Words SHA_384 = Words.sha384();
    private static final Words SHA_512 = Words.sha512();
    private static final Words SHA_224 = Words.sha224();
    private static final Words SHA_512_224 = Words.sha512Cut("SHA-512/224", 28);
    private static final Words SHA_512_256 = Words.sha512Cut("SHA-512/256", 32);

    private WordsTest() {
    }

    public static void main(String[] args) {
        for (int length = 0; length <= 300; length++) {
            byte[] key = Check.pattern(300 - length, length + 1);
            everyKind(key, Check.pattern(length, length), length);
        }
        for (int length : new int[] {1000, 4095, 4096, 4097}) {
            everyKind(Check.pattern(length, 7), Check.pattern(length, 8), 300);
        }
        Check.finish();
    }

    private static void everyKind(byte[] key, byte[] message, int n) {
        for (int kind = 1; kind <= 16; kind++) {
            SpongeDigests x = new SpongeDigests();
            Check.load(x, RANDOM, key);
            Check.load(x, MESSAGE, message);
            byte[] due = byTheWords(kind, key, message, n);
            String what = "promise 10: kind " + kind + ", key " + key.length + ", message " + message.length;
            Check.equal(what, x.digest(kind, n), due.length);
            Check.equal(what, Check.read(x, SHARED), due);
        }
    }

    private static byte[] byTheWords(int kind, byte[] k, byte[] x, int n) {
        switch (kind) {
            case 1: return SHA_256.hash(x);
            case 2: return SHA_384.hash(x);
            case 3: return SHA_512.hash(x);
            case 4: return SHA_224.hash(x);
            case 5: return SHA_512_224.hash(x);
            case 6: return SHA_512_256.hash(x);
            case 7: return sha3(224, x);
            case 8: return sha3(256, x);
            case 9: return sha3(384, x);
            case 10: return sha3(512, x);
            case 11: return Reference.sponge(168, 31, x, n);
            case 12: return Reference.sponge(136, 31, x, n);
            case 13: return SHA_256.hmac(k, x);
            case 14: return SHA_512.hmac(k, x);
            case 15: return SHA_256.mgf1(x, n);
            default: return SHA_512.mgf1(x, n);
        }
    }

    private static byte[] sha3(int b, byte[] x) {
        return Reference.sponge(200 - b / 4, 6, x, b / 8);
    }
}

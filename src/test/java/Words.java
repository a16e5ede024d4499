import java.io.ByteArrayOutputStream;
import java.math.BigInteger;
import java.nio.charset.StandardCharsets;
import java.util.Arrays;

/**
 * The hash functions in blocks, HMAC and MGF1 by the words of the document's Terms alone, for where "the
 * wording here decides": no number of FIPS stands here, each is worked out from the rule that tells it.
 */
final class Words {
    private static final BigInteger TWO_TO_64 = BigInteger.ONE.shiftLeft(64);

    /** S0, S1, s0, s1, three distances each. */
    private static final int[][] OF_32 = {{2, 13, 22}, {6, 11, 25}, {7, 18, 3}, {17, 19, 10}};
    private static final int[][] OF_64 = {{28, 34, 39}, {14, 18, 41}, {1, 8, 7}, {19, 61, 6}};

    private final int bits;
    private final int rounds;
    private final int[][] distances;
    private final long[] start;
    private final int cut;

    private Words(int bits, long[] start, int cut) {
        this.bits = bits;
        this.rounds = bits == 32 ? 64 : 80;
        this.distances = bits == 32 ? OF_32 : OF_64;
        this.start = start;
        this.cut = cut;
    }

    static Words sha256() {
        return new Words(32, halves(roots(0), 32), 32);
    }

    static Words sha224() {
        return new Words(32, halves(roots(8), 0), 28);
    }

    static Words sha512() {
        return new Words(64, roots(0), 64);
    }

    static Words sha384() {
        return new Words(64, roots(8), 48);
    }

    /** SHA-512/224 and SHA-512/256. */
    static Words sha512Cut(String name, int cut) {
        long[] mixed = roots(0);
        for (int i = 0; i < 8; i++) {
            mixed[i] ^= 0xa5a5a5a5a5a5a5a5L;
        }
        byte[] result = new Words(64, mixed, 64).hash(name.getBytes(StandardCharsets.US_ASCII));
        long[] start = new long[8];
        for (int i = 0; i < 8; i++) {
            start[i] = number(result, 8 * i, 8);
        }
        return new Words(64, start, cut);
    }

    byte[] hash(byte[]... parts) {
        byte[] x = padded(joined(parts));
        long[] state = start.clone();
        for (int from = 0; from < x.length; from += blockBytes()) {
            takeBlock(state, x, from);
        }
        byte[] result = new byte[0];
        for (long h : state) {
            result = joined(result, highestFirst(h, bits / 8));
        }
        return Arrays.copyOf(result, cut);
    }

    byte[] hmac(byte[] k, byte[] x) {
        byte[] key = Arrays.copyOf(k.length > blockBytes() ? hash(k) : k, blockBytes());
        return hash(mixed(key, 0x5c), hash(mixed(key, 0x36), x));
    }

    byte[] mgf1(byte[] x, int n) {
        ByteArrayOutputStream all = new ByteArrayOutputStream();
        for (int i = 0; all.size() < n; i++) {
            all.writeBytes(hash(x, highestFirst(i, 4)));
        }
        return Arrays.copyOf(all.toByteArray(), n);
    }

    private int blockBytes() {
        return 2 * bits;
    }

    private byte[] padded(byte[] x) {
        int eighth = blockBytes() / 8;
        int blocks = 1;
        while (blocks * blockBytes() < x.length + 1 + eighth) {
            blocks++;
        }
        byte[] all = Arrays.copyOf(x, blocks * blockBytes());
        all[x.length] = (byte) 128;
        System.arraycopy(highestFirst(8L * x.length, 8), 0, all, all.length - 8, 8);
        return all;
    }

    private void takeBlock(long[] state, byte[] x, int from) {
        long[] w = new long[rounds];
        for (int t = 0; t < rounds; t++) {
            w[t] = t < 16 ? number(x, from + t * bits / 8, bits / 8)
                : word(small(3, w[t - 2]) + w[t - 7] + small(2, w[t - 15]) + w[t - 16]);
        }
        long[] v = state.clone();
        for (int t = 0; t < rounds; t++) {
            long one = v[7] + big(1, v[4]) + (v[4] & v[5] ^ ~v[4] & v[6]) + cubeRoot(t) + w[t];
            long two = big(0, v[0]) + (v[0] & v[1] ^ v[0] & v[2] ^ v[1] & v[2]);
            System.arraycopy(v, 0, v, 1, 7);
            v[4] = word(v[4] + one);
            v[0] = word(one + two);
        }
        for (int i = 0; i < 8; i++) {
            state[i] = word(state[i] + v[i]);
        }
    }

    private long big(int which, long x) {
        int[] by = distances[which];
        return rotr(x, by[0]) ^ rotr(x, by[1]) ^ rotr(x, by[2]);
    }

    private long small(int which, long x) {
        int[] by = distances[which];
        return rotr(x, by[0]) ^ rotr(x, by[1]) ^ x >>> by[2];
    }

    private long rotr(long x, int by) {
        return bits == 64 ? Long.rotateRight(x, by) : word(Integer.rotateRight((int) x, by));
    }

    private long word(long x) {
        return bits == 64 ? x : x & 0xffffffffL;
    }

    private long cubeRoot(int t) {
        return Tables.CUBE_ROOTS[t] >>> 64 - bits;
    }

    /** Worked out once, as each block asks for all of them. */
    private static final class Tables {
        static final long[] CUBE_ROOTS = new long[80];

        static {
            for (int t = 0; t < 80; t++) {
                CUBE_ROOTS[t] = fraction(BigInteger.valueOf(prime(t)), 3);
            }
        }
    }

    /** The first 64 bits of the fractional parts of eight square roots. */
    private static long[] roots(int first) {
        long[] roots = new long[8];
        for (int i = 0; i < 8; i++) {
            roots[i] = fraction(BigInteger.valueOf(prime(first + i)), 2);
        }
        return roots;
    }

    /** 32 bits of each, shifted down: by 32 they are the first 32, by 0 the bits 33 to 64. */
    private static long[] halves(long[] roots, int down) {
        long[] halves = new long[8];
        for (int i = 0; i < 8; i++) {
            halves[i] = roots[i] >>> down & 0xffffffffL;
        }
        return halves;
    }

    /** The first 64 bits of the fractional part of a root: the largest whole number whose power is not above. */
    private static long fraction(BigInteger of, int power) {
        BigInteger scaled = of.shiftLeft(64 * power);
        BigInteger root = BigInteger.ZERO;
        for (int bit = 64 + 8; bit >= 0; bit--) {
            BigInteger tried = root.setBit(bit);
            if (tried.pow(power).compareTo(scaled) <= 0) {
                root = tried;
            }
        }
        return root.mod(TWO_TO_64).longValue();
    }

    private static int prime(int place) {
        int found = -1;
        int number = 1;
        while (found < place) {
            number++;
            if (isPrime(number)) {
                found++;
            }
        }
        return number;
    }

    private static boolean isPrime(int number) {
        for (int d = 2; d < number; d++) {
            if (number % d == 0) {
                return false;
            }
        }
        return true;
    }

    private static long number(byte[] x, int from, int count) {
        long value = 0;
        for (int i = 0; i < count; i++) {
            value = value << 8 | x[from + i] & 255;
        }
        return value;
    }

    private static byte[] highestFirst(long v, int n) {
        byte[] bytes = new byte[n];
        for (int i = 0; i < n; i++) {
            bytes[i] = (byte) (v >>> 8 * (n - 1 - i));
        }
        return bytes;
    }

    private static byte[] mixed(byte[] key, int pad) {
        byte[] mixed = key.clone();
        for (int i = 0; i < mixed.length; i++) {
            mixed[i] ^= (byte) pad;
        }
        return mixed;
    }

    private static byte[] joined(byte[]... parts) {
        ByteArrayOutputStream all = new ByteArrayOutputStream();
        for (byte[] part : parts) {
            all.writeBytes(part);
        }
        return all.toByteArray();
    }
}

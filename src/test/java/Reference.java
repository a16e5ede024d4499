import java.security.GeneralSecurityException;
import java.security.MessageDigest;
import java.util.Arrays;
import javax.crypto.Mac;
import javax.crypto.spec.SecretKeySpec;

/**
 * The sixteen kinds of digest by other means than the class: by the Java library, and for SHAKE, which
 * the library does not offer, by the document's words on SPONGE, every table worked out from its rule.
 */
final class Reference {
    private static final String[] NAMES = {
        "SHA-256", "SHA-384", "SHA-512", "SHA-224", "SHA-512/224", "SHA-512/256",
        "SHA3-224", "SHA3-256", "SHA3-384", "SHA3-512",
    };

    private Reference() {
    }

    static byte[] digest(int kind, byte[] key, byte[] x, int n) {
        if (kind <= 10) {
            return hash(NAMES[kind - 1], x);
        }
        switch (kind) {
            case 11: return sponge(168, 31, x, n);
            case 12: return sponge(136, 31, x, n);
            case 13: return hmac("SHA-256", 64, key, x);
            case 14: return hmac("SHA-512", 128, key, x);
            case 15: return mgf1("SHA-256", x, n);
            default: return mgf1("SHA-512", x, n);
        }
    }

    static byte[] hash(String name, byte[]... parts) {
        try {
            MessageDigest digest = MessageDigest.getInstance(name);
            for (byte[] part : parts) {
                digest.update(part);
            }
            return digest.digest();
        } catch (GeneralSecurityException e) {
            throw new IllegalStateException(e);
        }
    }

    /** The library refuses an empty key, so the zeros behind a short one are set here. */
    static byte[] hmac(String name, int block, byte[] key, byte[] x) {
        String library = "Hmac" + name.replace("-", "");
        byte[] full = key.length > block ? key : Arrays.copyOf(key, block);
        try {
            Mac mac = Mac.getInstance(library);
            mac.init(new SecretKeySpec(full, library));
            return mac.doFinal(x);
        } catch (GeneralSecurityException e) {
            throw new IllegalStateException(e);
        }
    }

    static byte[] mgf1(String name, byte[] x, int n) {
        byte[] result = new byte[n];
        int done = 0;
        for (int i = 0; done < n; i++) {
            byte[] counter = {(byte) (i >>> 24), (byte) (i >>> 16), (byte) (i >>> 8), (byte) i};
            byte[] part = hash(name, x, counter);
            int count = Math.min(part.length, n - done);
            System.arraycopy(part, 0, result, done, count);
            done += count;
        }
        return result;
    }

    static byte[] sponge(int rate, int suffix, byte[] x, int n) {
        byte[] padded = Arrays.copyOf(x, (x.length + 1 + rate - 1) / rate * rate);
        padded[x.length] = (byte) suffix;
        padded[padded.length - 1] ^= (byte) 128;
        long[][] lanes = new long[5][5];
        for (int from = 0; from < padded.length; from += rate) {
            for (int i = 0; i < rate; i++) {
                lanes[i / 8 % 5][i / 40] ^= (padded[from + i] & 255L) << 8 * (i % 8);
            }
            permute(lanes);
        }
        byte[] result = new byte[n];
        for (int i = 0; i < n; i++) {
            int place = i % rate;
            if (i > 0 && place == 0) {
                permute(lanes);
            }
            result[i] = (byte) (lanes[place / 8 % 5][place / 40] >>> 8 * (place % 8));
        }
        return result;
    }

    private static void permute(long[][] lanes) {
        int[][] offsets = offsets();
        for (int i = 0; i < 24; i++) {
            long[] c = new long[5];
            for (int a = 0; a < 5; a++) {
                for (int b = 0; b < 5; b++) {
                    c[a] ^= lanes[a][b];
                }
            }
            long[][] moved = new long[5][5];
            for (int a = 0; a < 5; a++) {
                for (int b = 0; b < 5; b++) {
                    long lane = lanes[a][b] ^ c[(a + 4) % 5] ^ Long.rotateLeft(c[(a + 1) % 5], 1);
                    moved[b][(2 * a + 3 * b) % 5] = Long.rotateLeft(lane, offsets[a][b]);
                }
            }
            for (int a = 0; a < 5; a++) {
                for (int b = 0; b < 5; b++) {
                    lanes[a][b] = moved[a][b] ^ (~moved[(a + 1) % 5][b] & moved[(a + 2) % 5][b]);
                }
            }
            lanes[0][0] ^= roundConstant(i);
        }
    }

    private static int[][] offsets() {
        int[][] offsets = new int[5][5];
        int a = 1;
        int b = 0;
        for (int t = 0; t < 24; t++) {
            offsets[a][b] = (t + 1) * (t + 2) / 2 % 64;
            int next = (2 * a + 3 * b) % 5;
            a = b;
            b = next;
        }
        return offsets;
    }

    private static long roundConstant(int i) {
        long constant = 0;
        for (int j = 0; j <= 6; j++) {
            constant |= (long) bitOfStep(j + 7 * i) << (1 << j) - 1;
        }
        return constant;
    }

    private static int bitOfStep(int t) {
        int value = 1;
        for (int step = 0; step < t % 255; step++) {
            value <<= 1;
            if (value > 255) {
                value = value & 255 ^ 113;
            }
        }
        return value & 1;
    }
}

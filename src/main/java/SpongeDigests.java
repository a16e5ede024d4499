import java.util.Arrays;

/**
 * Hash functions over bytes, with eight slots for what goes in and comes out of them. The numbered
 * promises that the comments speak of are those of the document, DOC.md.
 */
public final class SpongeDigests {
    private static final int SLOT_COUNT = 8;
    private static final int MOST_BYTES = 8192;
    private static final int BYTES_PER_FEED = 20;

    private static final int RANDOM = 0;
    private static final int MESSAGE = 3;
    private static final int SHARED = 6;

    private static final int LAST_KIND = 16;

    private static final int LANE_COUNT = 25;
    private static final int PERMUTE_ROUNDS = 24;
    private static final int SHA3_SUFFIX = 6;
    private static final int SHAKE_SUFFIX = 31;

    private static final int INNER_PAD = 0x36;
    private static final int OUTER_PAD = 0x5c;
    private static final int COUNTER_BYTES = 4;

    /** The most bytes there are, in the shorter of the two results that MGF1 is made of. */
    private static final int MOST_COUNTERS = MOST_BYTES / 32;

    private static final int LETTERS = 8;
    private static final int BLOCK_WORDS = 16;

    /** Where the distances of S0, S1, s0 and s1 begin in a row of twelve; the last of s0 and s1 is a shift. */
    private static final int BIG_0 = 0;
    private static final int BIG_1 = 3;
    private static final int SMALL_0 = 6;
    private static final int SMALL_1 = 9;

    private static final int[] DISTANCES_256 = {2, 13, 22, 6, 11, 25, 7, 18, 3, 17, 19, 10};
    private static final int[] DISTANCES_512 = {28, 34, 39, 14, 18, 41, 1, 8, 7, 19, 61, 6};

    private static final long[] START_256 = {
        0x6a09e667L, 0xbb67ae85L, 0x3c6ef372L, 0xa54ff53aL,
        0x510e527fL, 0x9b05688cL, 0x1f83d9abL, 0x5be0cd19L,
    };

    private static final long[] START_224 = {
        0xc1059ed8L, 0x367cd507L, 0x3070dd17L, 0xf70e5939L,
        0xffc00b31L, 0x68581511L, 0x64f98fa7L, 0xbefa4fa4L,
    };

    private static final long[] START_512 = {
        0x6a09e667f3bcc908L, 0xbb67ae8584caa73bL, 0x3c6ef372fe94f82bL, 0xa54ff53a5f1d36f1L,
        0x510e527fade682d1L, 0x9b05688c2b3e6c1fL, 0x1f83d9abfb41bd6bL, 0x5be0cd19137e2179L,
    };

    private static final long[] START_384 = {
        0xcbbb9d5dc1059ed8L, 0x629a292a367cd507L, 0x9159015a3070dd17L, 0x152fecd8f70e5939L,
        0x67332667ffc00b31L, 0x8eb44a8768581511L, 0xdb0c2e0d64f98fa7L, 0x47b5481dbefa4fa4L,
    };

    private static final long[] START_512_224 = {
        0x8c3d37c819544da2L, 0x73e1996689dcd4d6L, 0x1dfab7ae32ff9c82L, 0x679dd514582f9fcfL,
        0x0f6d2b697bd44da8L, 0x77e36f7304c48942L, 0x3f9d85a86a1d36c8L, 0x1112e6ad91d692a1L,
    };

    private static final long[] START_512_256 = {
        0x22312194fc2bf72cL, 0x9f555fa3c84c64c2L, 0x2393b86b6f53b151L, 0x963877195940eabdL,
        0x96283ee2a88effe3L, 0xbe5e1e2553863992L, 0x2b0199fc2c85b8aaL, 0x0eb72ddc81c52ca2L,
    };

    /** 64 bits of each cube root; SHA-256 takes the upper halves of the first 64 of them as its own. */
    private static final long[] CUBE_ROOTS = {
        0x428a2f98d728ae22L, 0x7137449123ef65cdL, 0xb5c0fbcfec4d3b2fL, 0xe9b5dba58189dbbcL,
        0x3956c25bf348b538L, 0x59f111f1b605d019L, 0x923f82a4af194f9bL, 0xab1c5ed5da6d8118L,
        0xd807aa98a3030242L, 0x12835b0145706fbeL, 0x243185be4ee4b28cL, 0x550c7dc3d5ffb4e2L,
        0x72be5d74f27b896fL, 0x80deb1fe3b1696b1L, 0x9bdc06a725c71235L, 0xc19bf174cf692694L,
        0xe49b69c19ef14ad2L, 0xefbe4786384f25e3L, 0x0fc19dc68b8cd5b5L, 0x240ca1cc77ac9c65L,
        0x2de92c6f592b0275L, 0x4a7484aa6ea6e483L, 0x5cb0a9dcbd41fbd4L, 0x76f988da831153b5L,
        0x983e5152ee66dfabL, 0xa831c66d2db43210L, 0xb00327c898fb213fL, 0xbf597fc7beef0ee4L,
        0xc6e00bf33da88fc2L, 0xd5a79147930aa725L, 0x06ca6351e003826fL, 0x142929670a0e6e70L,
        0x27b70a8546d22ffcL, 0x2e1b21385c26c926L, 0x4d2c6dfc5ac42aedL, 0x53380d139d95b3dfL,
        0x650a73548baf63deL, 0x766a0abb3c77b2a8L, 0x81c2c92e47edaee6L, 0x92722c851482353bL,
        0xa2bfe8a14cf10364L, 0xa81a664bbc423001L, 0xc24b8b70d0f89791L, 0xc76c51a30654be30L,
        0xd192e819d6ef5218L, 0xd69906245565a910L, 0xf40e35855771202aL, 0x106aa07032bbd1b8L,
        0x19a4c116b8d2d0c8L, 0x1e376c085141ab53L, 0x2748774cdf8eeb99L, 0x34b0bcb5e19b48a8L,
        0x391c0cb3c5c95a63L, 0x4ed8aa4ae3418acbL, 0x5b9cca4f7763e373L, 0x682e6ff3d6b2b8a3L,
        0x748f82ee5defb2fcL, 0x78a5636f43172f60L, 0x84c87814a1f0ab72L, 0x8cc702081a6439ecL,
        0x90befffa23631e28L, 0xa4506cebde82bde9L, 0xbef9a3f7b2c67915L, 0xc67178f2e372532bL,
        0xca273eceea26619cL, 0xd186b8c721c0c207L, 0xeada7dd6cde0eb1eL, 0xf57d4f7fee6ed178L,
        0x06f067aa72176fbaL, 0x0a637dc5a2c898a6L, 0x113f9804bef90daeL, 0x1b710b35131c471bL,
        0x28db77f523047d84L, 0x32caab7b40c72493L, 0x3c9ebe0a15c9bebcL, 0x431d67c49c100d4cL,
        0x4cc5d4becb3e42b6L, 0x597f299cfc657e2aL, 0x5fcb6fab3ad6faecL, 0x6c44198c4a475817L,
    };

    /** RC i of the document. */
    private static final long[] ROUND_CONSTANTS = {
        0x0000000000000001L, 0x0000000000008082L, 0x800000000000808aL, 0x8000000080008000L,
        0x000000000000808bL, 0x0000000080000001L, 0x8000000080008081L, 0x8000000000008009L,
        0x000000000000008aL, 0x0000000000000088L, 0x0000000080008009L, 0x000000008000000aL,
        0x000000008000808bL, 0x800000000000008bL, 0x8000000000008089L, 0x8000000000008003L,
        0x8000000000008002L, 0x8000000000000080L, 0x000000000000800aL, 0x800000008000000aL,
        0x8000000080008081L, 0x8000000000008080L, 0x0000000080000001L, 0x8000000080008008L,
    };

    /** o[a, b] of the document, at a + 5 b. */
    private static final int[] LANE_TURNS = {
        0, 1, 62, 28, 27,
        36, 44, 6, 55, 20,
        3, 10, 43, 25, 39,
        41, 45, 15, 21, 8,
        18, 2, 61, 56, 14,
    };

    /** The place of B[b, 2 a + 3 b], at a + 5 b. */
    private static final int[] LANE_TARGETS = {
        0, 10, 20, 5, 15,
        16, 1, 11, 21, 6,
        7, 17, 2, 12, 22,
        23, 8, 18, 3, 13,
        14, 24, 9, 19, 4,
    };

    private final Bytes[] slots;
    private final Bytes tape;
    private final Sponge sponge;
    private final BlockHash hash256;
    private final BlockHash hash512;
    private final byte[] key;
    private final byte[] padded;
    private final byte[] inner;
    private final byte[] counter;

    /** Promise 1. Everything that a call needs is made here, so that no call makes anything. */
    public SpongeDigests() {
        slots = new Bytes[SLOT_COUNT];
        for (int i = 0; i < SLOT_COUNT; i++) {
            slots[i] = new Bytes();
        }
        tape = new Bytes();
        sponge = new Sponge();
        hash256 = new BlockHash(4, 64, DISTANCES_256);
        hash512 = new BlockHash(8, 80, DISTANCES_512);
        key = new byte[hash512.blockBytes];
        padded = new byte[hash512.blockBytes];
        inner = new byte[hash512.resultBytes];
        counter = new byte[COUNTER_BYTES];
    }

    /** Promise 2. */
    public int feed(int a, int b, int c, int d, int e) throws IndexOutOfBoundsException {
        if (tape.size > MOST_BYTES - BYTES_PER_FEED) {
            throw new IndexOutOfBoundsException("the tape is full");
        }
        tape.append(a);
        tape.append(b);
        tape.append(c);
        tape.append(d);
        tape.append(e);
        return tape.size;
    }

    /** Promise 3. */
    public int end(int slot, int n) throws IllegalArgumentException, IndexOutOfBoundsException {
        Bytes target = slotAt(slot);
        requireWithin(n, 0, MOST_BYTES);
        if (tape.size < n) {
            throw new IndexOutOfBoundsException("the tape has fewer bytes");
        }
        target.take(tape, n);
        tape.size = 0;
        return n;
    }

    /** Promise 4. */
    public int copy(int from, int to) throws IllegalArgumentException {
        Bytes source = slotAt(from);
        Bytes target = slotAt(to);
        target.take(source, source.size);
        return target.size;
    }

    /** Promise 5. */
    public int resize(int slot, int n) throws IllegalArgumentException {
        Bytes target = slotAt(slot);
        requireWithin(n, 0, MOST_BYTES);
        int before = target.size;
        target.cutOrFill(n);
        return before;
    }

    /** Promise 6. */
    public int alter(int slot, int i, int v) throws IllegalArgumentException, IndexOutOfBoundsException {
        Bytes target = slotAt(slot);
        requireWithin(v, 0, 255);
        requirePlace(target, i);
        target.data[i] = (byte) (target.data[i] ^ v);
        return target.data[i] & 255;
    }

    /** Promise 7. */
    public int length(int slot) throws IllegalArgumentException {
        return slotAt(slot).size;
    }

    /** Promise 8. */
    public long word(int slot, int i) throws IllegalArgumentException, IndexOutOfBoundsException {
        Bytes source = slotAt(slot);
        requirePlace(source, i);
        return source.eightFrom(i);
    }

    /** Promise 9. */
    public boolean same(int slot, int other) throws IllegalArgumentException {
        return slotAt(slot).matches(slotAt(other));
    }

    /** Promise 10. */
    public int digest(int kind, int n) throws IllegalArgumentException {
        requireWithin(kind, 1, LAST_KIND);
        requireWithin(n, 0, MOST_BYTES);
        switch (kind) {
            case 1: hashInBlocks(hash256, START_256, 32); break;
            case 2: hashInBlocks(hash512, START_384, 48); break;
            case 3: hashInBlocks(hash512, START_512, 64); break;
            case 4: hashInBlocks(hash256, START_224, 28); break;
            case 5: hashInBlocks(hash512, START_512_224, 28); break;
            case 6: hashInBlocks(hash512, START_512_256, 32); break;
            case 7: hashInSponge(144, SHA3_SUFFIX, 28); break;
            case 8: hashInSponge(136, SHA3_SUFFIX, 32); break;
            case 9: hashInSponge(104, SHA3_SUFFIX, 48); break;
            case 10: hashInSponge(72, SHA3_SUFFIX, 64); break;
            case 11: hashInSponge(168, SHAKE_SUFFIX, n); break;
            case 12: hashInSponge(136, SHAKE_SUFFIX, n); break;
            case 13: hashWithKey(hash256, START_256); break;
            case 14: hashWithKey(hash512, START_512); break;
            case 15: hashWithCounter(hash256, START_256, n); break;
            default: hashWithCounter(hash512, START_512, n); break;
        }
        return slots[SHARED].size;
    }

    private Bytes slotAt(int slot) {
        requireWithin(slot, 0, SLOT_COUNT - 1);
        return slots[slot];
    }

    private static void requireWithin(int number, int least, int most) {
        if (number < least || number > most) {
            throw new IllegalArgumentException("a number is out of range");
        }
    }

    private static void requirePlace(Bytes bytes, int i) {
        if (i < 0 || i >= bytes.size) {
            throw new IndexOutOfBoundsException("the slot has no such byte");
        }
    }

    private void hashInBlocks(BlockHash hash, long[] start, int count) {
        Bytes message = slots[MESSAGE];
        hash.begin(start);
        hash.absorb(message.data, 0, message.size);
        hash.finish(slots[SHARED].data, 0, count);
        slots[SHARED].size = count;
    }

    private void hashInSponge(int rate, int suffix, int count) {
        Bytes message = slots[MESSAGE];
        sponge.absorb(rate, suffix, message.data, message.size);
        sponge.squeeze(rate, slots[SHARED].data, count);
        slots[SHARED].size = count;
    }

    /** HMAC, with RANDOM as its key. */
    private void hashWithKey(BlockHash hash, long[] start) {
        Bytes message = slots[MESSAGE];
        Bytes shared = slots[SHARED];
        setKey(hash, start);
        beginWithKey(hash, start, INNER_PAD);
        hash.absorb(message.data, 0, message.size);
        hash.finish(inner, 0, hash.resultBytes);
        beginWithKey(hash, start, OUTER_PAD);
        hash.absorb(inner, 0, hash.resultBytes);
        hash.finish(shared.data, 0, hash.resultBytes);
        shared.size = hash.resultBytes;
    }

    private void setKey(BlockHash hash, long[] start) {
        Bytes random = slots[RANDOM];
        Arrays.fill(key, (byte) 0);
        if (random.size > hash.blockBytes) {
            hash.begin(start);
            hash.absorb(random.data, 0, random.size);
            hash.finish(key, 0, hash.resultBytes);
        } else {
            System.arraycopy(random.data, 0, key, 0, random.size);
        }
    }

    private void beginWithKey(BlockHash hash, long[] start, int pad) {
        for (int i = 0; i < hash.blockBytes; i++) {
            padded[i] = (byte) (key[i] ^ pad);
        }
        hash.begin(start);
        hash.absorb(padded, 0, hash.blockBytes);
    }

    /**
     * MGF1. Every hash begins with the same message, so its whole blocks are absorbed once, and each
     * counter goes on from there: else the longest message would be read up to 256 times in a call.
     */
    private void hashWithCounter(BlockHash hash, long[] start, int count) {
        Bytes message = slots[MESSAGE];
        Bytes shared = slots[SHARED];
        int rest = message.size & hash.blockBytes - 1;
        hash.begin(start);
        hash.absorb(message.data, 0, message.size - rest);
        hash.setMark();
        int done = 0;
        for (int number = 0; number < MOST_COUNTERS && done < count; number++) {
            int part = Math.min(hash.resultBytes, count - done);
            setCounter(number);
            hash.goToMark();
            hash.absorb(message.data, message.size - rest, rest);
            hash.absorb(counter, 0, COUNTER_BYTES);
            hash.finish(shared.data, done, part);
            done += part;
        }
        shared.size = count;
    }

    private void setCounter(int number) {
        for (int i = 0; i < COUNTER_BYTES; i++) {
            counter[i] = (byte) (number >>> 8 * (COUNTER_BYTES - 1 - i));
        }
    }

    /** A row of bytes that can have any length up to the most; what lies behind its size is of no meaning. */
    private static final class Bytes {
        private final byte[] data = new byte[MOST_BYTES];
        private int size;

        /** Asks for room for four bytes. */
        private void append(int v) {
            for (int shift = 24; shift >= 0; shift -= 8) {
                data[size] = (byte) (v >>> shift);
                size++;
            }
        }

        private void take(Bytes source, int n) {
            System.arraycopy(source.data, 0, data, 0, n);
            size = n;
        }

        private void cutOrFill(int n) {
            if (n > size) {
                Arrays.fill(data, size, n, (byte) 0);
            }
            size = n;
        }

        private long eightFrom(int i) {
            long value = 0;
            for (int j = 0; j < 8; j++) {
                int next = i + j < size ? data[i + j] & 255 : 0;
                value = value << 8 | next;
            }
            return value;
        }

        private boolean matches(Bytes other) {
            if (size != other.size) {
                return false;
            }
            for (int i = 0; i < size; i++) {
                if (data[i] != other.data[i]) {
                    return false;
                }
            }
            return true;
        }
    }

    /** SPONGE of the document; lane (a, b) lies at a + 5 b. */
    private static final class Sponge {
        private final long[] lanes = new long[LANE_COUNT];
        private final long[] moved = new long[LANE_COUNT];
        private final long[] columns = new long[5];

        private void absorb(int rate, int suffix, byte[] x, int count) {
            Arrays.fill(lanes, 0L);
            int place = 0;
            for (int i = 0; i < count; i++) {
                mixIn(place, x[i] & 255);
                place++;
                if (place == rate) {
                    permute();
                    place = 0;
                }
            }
            mixIn(place, suffix);
            mixIn(rate - 1, 128);
            permute();
        }

        private void squeeze(int rate, byte[] to, int count) {
            int place = 0;
            for (int i = 0; i < count; i++) {
                if (place == rate) {
                    permute();
                    place = 0;
                }
                to[i] = (byte) (lanes[place >> 3] >>> 8 * (place & 7));
                place++;
            }
        }

        private void mixIn(int place, int value) {
            lanes[place >> 3] ^= (long) value << 8 * (place & 7);
        }

        private void permute() {
            for (int i = 0; i < PERMUTE_ROUNDS; i++) {
                mixColumns();
                turnAndMove();
                mixRows();
                lanes[0] ^= ROUND_CONSTANTS[i];
            }
        }

        private void mixColumns() {
            for (int a = 0; a < 5; a++) {
                columns[a] = lanes[a] ^ lanes[a + 5] ^ lanes[a + 10] ^ lanes[a + 15] ^ lanes[a + 20];
            }
            for (int a = 0; a < 5; a++) {
                long change = columns[(a + 4) % 5] ^ rotl(columns[(a + 1) % 5], 1);
                for (int row = 0; row < LANE_COUNT; row += 5) {
                    lanes[a + row] ^= change;
                }
            }
        }

        private void turnAndMove() {
            for (int i = 0; i < LANE_COUNT; i++) {
                moved[LANE_TARGETS[i]] = rotl(lanes[i], LANE_TURNS[i]);
            }
        }

        private void mixRows() {
            for (int row = 0; row < LANE_COUNT; row += 5) {
                for (int a = 0; a < 5; a++) {
                    lanes[a + row] = moved[a + row] ^ (~moved[(a + 1) % 5 + row] & moved[(a + 2) % 5 + row]);
                }
            }
        }

        /** Right for 0 too, as Java takes a shift by 64 as one by 0. */
        private static long rotl(long x, int n) {
            return x << n | x >>> 64 - n;
        }
    }

    /**
     * SHA-256 and SHA-512 of the document, and those that differ from them in the start alone. Words
     * of 32 bits are held in longs whose upper half is 0, so that one text serves both widths.
     */
    private static final class BlockHash {
        private final int wordBytes;
        private final int wordBits;
        private final int rounds;
        private final int[] distances;
        private final long mask;
        private final int blockBytes;
        private final int resultBytes;
        private final byte[] block;
        private final long[] state;
        private final long[] schedule;
        private final long[] markedState;
        private int filled;
        private long total;
        private long markedTotal;

        private BlockHash(int wordBytes, int rounds, int[] distances) {
            this.wordBytes = wordBytes;
            this.rounds = rounds;
            this.distances = distances;
            wordBits = 8 * wordBytes;
            mask = -1L >>> 64 - wordBits;
            blockBytes = BLOCK_WORDS * wordBytes;
            resultBytes = LETTERS * wordBytes;
            block = new byte[blockBytes];
            state = new long[LETTERS];
            schedule = new long[rounds];
            markedState = new long[LETTERS];
        }

        private void begin(long[] start) {
            System.arraycopy(start, 0, state, 0, LETTERS);
            filled = 0;
            total = 0;
        }

        private void absorb(byte[] x, int from, int count) {
            for (int i = 0; i < count; i++) {
                block[filled] = x[from + i];
                filled++;
                if (filled == blockBytes) {
                    compress();
                    filled = 0;
                }
            }
            total += count;
        }

        /** For use between blocks only: bytes of a block that has begun are not kept. */
        private void setMark() {
            System.arraycopy(state, 0, markedState, 0, LETTERS);
            markedTotal = total;
        }

        private void goToMark() {
            System.arraycopy(markedState, 0, state, 0, LETTERS);
            total = markedTotal;
            filled = 0;
        }

        private void finish(byte[] to, int at, int count) {
            block[filled] = (byte) 128;
            filled++;
            if (filled > blockBytes - blockBytes / 8) {
                Arrays.fill(block, filled, blockBytes, (byte) 0);
                compress();
                filled = 0;
            }
            Arrays.fill(block, filled, blockBytes, (byte) 0);
            long bits = 8 * total;
            for (int i = 0; i < 8; i++) {
                block[blockBytes - 1 - i] = (byte) (bits >>> 8 * i);
            }
            compress();
            writeState(to, at, count);
        }

        private void writeState(byte[] to, int at, int count) {
            int done = 0;
            for (int i = 0; i < LETTERS; i++) {
                for (int shift = wordBits - 8; shift >= 0 && done < count; shift -= 8) {
                    to[at + done] = (byte) (state[i] >>> shift);
                    done++;
                }
            }
        }

        private void compress() {
            fillSchedule();
            long a = state[0];
            long b = state[1];
            long c = state[2];
            long d = state[3];
            long e = state[4];
            long f = state[5];
            long g = state[6];
            long h = state[7];
            for (int t = 0; t < rounds; t++) {
                long constant = CUBE_ROOTS[t] >>> 64 - wordBits;
                long first = h + threeTurns(e, BIG_1) + (e & f ^ ~e & g) + constant + schedule[t];
                long second = threeTurns(a, BIG_0) + (a & b ^ a & c ^ b & c);
                h = g;
                g = f;
                f = e;
                e = d + first & mask;
                d = c;
                c = b;
                b = a;
                a = first + second & mask;
            }
            addToState(0, a, b, c, d);
            addToState(4, e, f, g, h);
        }

        private void addToState(int at, long p, long q, long r, long s) {
            state[at] = state[at] + p & mask;
            state[at + 1] = state[at + 1] + q & mask;
            state[at + 2] = state[at + 2] + r & mask;
            state[at + 3] = state[at + 3] + s & mask;
        }

        private void fillSchedule() {
            for (int t = 0; t < BLOCK_WORDS; t++) {
                long value = 0;
                for (int i = 0; i < wordBytes; i++) {
                    value = value << 8 | block[t * wordBytes + i] & 255;
                }
                schedule[t] = value;
            }
            for (int t = BLOCK_WORDS; t < rounds; t++) {
                long late = twoTurnsAndShift(schedule[t - 2], SMALL_1);
                long early = twoTurnsAndShift(schedule[t - 15], SMALL_0);
                schedule[t] = late + schedule[t - 7] + early + schedule[t - 16] & mask;
            }
        }

        private long threeTurns(long x, int at) {
            return rotr(x, distances[at]) ^ rotr(x, distances[at + 1]) ^ rotr(x, distances[at + 2]);
        }

        private long twoTurnsAndShift(long x, int at) {
            return rotr(x, distances[at]) ^ rotr(x, distances[at + 1]) ^ x >>> distances[at + 2];
        }

        private long rotr(long x, int n) {
            return (x >>> n | x << wordBits - n) & mask;
        }
    }
}

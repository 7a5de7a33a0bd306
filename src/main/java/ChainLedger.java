import java.util.ArrayList;
import java.util.Arrays;

/**
 * A node of a chain of blocks: blocks of payments come in any order, with forks, some before their
 * parents, some that turn out to be wrong late; it follows the branch with the most work, and tells
 * the coins that stand at its end.
 */
public final class ChainLedger {
    public static final int REFUSED = -1, NONE = -2, FORM = -3, KNOWN = -4, FULL = -5, RULE = -6;

    private static final int HELD_ANSWER = 1000;
    private static final int MOST_ROW_BYTES = 4096;
    private static final int MOST_STORED = 256;
    private static final int MOST_STORED_BYTES = 131072;
    private static final int MOST_HELD = 16;
    private static final int MOST_POOLED = 32;
    private static final int MOST_POOLED_BYTES = 1000;
    private static final int MOST_PAYMENTS = 32;
    private static final int MOST_PARTS = 8;
    private static final int MOST_SCRIPT_BYTES = 80;
    private static final int MOST_MINED = 2000;

    private static final int HIGHEST_NUMBER = 0x7fffffff;
    private static final int HASH_BYTES = 32;
    private static final int SIGNATURE_BYTES = 8;

    // Places in the bytes of a block.
    private static final int ROOT_AT = 32;
    private static final int TIME_AT = 64;
    private static final int TARGET_AT = 68;
    private static final int NONCE_AT = 72;
    private static final int HEADER_BYTES = 76;
    private static final int PAYMENTS_AT = 77;
    // Of the first payment that draft makes.
    private static final int FIRST_BYTES = 17;

    // Places in the bytes of an input and of an output; a script's bytes follow its size.
    private static final int INDEX_AT = 32;
    private static final int KEY_SCRIPT_AT = 33;
    private static final int LOCK_SCRIPT_AT = 4;

    private static final int FIRST_TARGET = 32768;
    private static final int LOWEST_TARGET = 2048;
    private static final int HIGHEST_TARGET = 65535;
    private static final int TARGET_SPAN = 8;
    private static final int MEDIAN_SPAN = 7;
    private static final int WHOLE_WORK = 16777216;
    private static final int FIRST_REWARD = 1000000;
    private static final int RIPE_AFTER = 6;

    // What OUT is.
    private static final int NOTHING = 0;
    private static final int A_BLOCK = 1;
    private static final int A_PAYMENT = 2;

    private final Row tape;
    private final Row out;
    private int outKind;
    // Whether no two payments of the drafted block have the same id: else nothing makes it well formed.
    private boolean outIdsDiffer;
    private final Sha sha;
    private final Judge judge;
    private final Chain chain;
    private final Pool waiting;
    private final Payment outPayment;
    private final byte[] fresh;

    public ChainLedger() {
        tape = new Row();
        out = new Row();
        outKind = NOTHING;
        sha = new Sha();
        judge = new Judge(sha);
        chain = new Chain(sha, judge);
        waiting = new Pool(sha, judge, chain);
        outPayment = new Payment();
        fresh = new byte[MOST_SCRIPT_BYTES];
    }

    public int feed(int a, int b, int c, int d, int e) {
        if (tape.size + 20 > MOST_ROW_BYTES) {
            return FULL;
        }
        tape.addNumber(a);
        tape.addNumber(b);
        tape.addNumber(c);
        tape.addNumber(d);
        tape.addNumber(e);
        return tape.size;
    }

    public int end(int n) {
        if (n < 0 || n > tape.size) {
            return REFUSED;
        }
        tape.size = n;
        return n;
    }

    public int alter(int i, int value) {
        if (i < 0 || i >= tape.size || value < 0 || value > 255) {
            return REFUSED;
        }
        int former = tape.bytes[i] & 255;
        tape.bytes[i] = (byte) value;
        return former;
    }

    // block and send each name the three stages of a coming block themselves: with a method between
    // the calls would go deeper than the language allows.
    public int block() {
        int answer = chain.receive(tape.bytes, tape.size);
        chain.settle();
        waiting.renew();
        tape.size = 0;
        return answer;
    }

    public int pay() {
        int answer = waiting.receive(tape.bytes, tape.size);
        tape.size = 0;
        return answer;
    }

    public int draft(int parent, int time, int key, boolean pool) {
        Block base = parent == -1 ? chain.tip : chain.numbered(parent);
        if (base == null || time < 0) {
            return REFUSED;
        }
        int others = pool && base == chain.tip ? waiting.fitting(PAYMENTS_AT + FIRST_BYTES) : 0;
        outKind = A_BLOCK;
        out.size = 0;
        writeHeader(base, time);
        out.addByte(others + 1);
        writeFirst(base.height + 1, waiting.feesOf(others), key);
        for (int i = 0; i < others; i++) {
            Payment payment = waiting.members.get(i);
            out.addBytes(payment.bytes, payment.start, payment.size);
        }
        putRoot(others);
        return out.size;
    }

    public int mine(int n) {
        if (n < 1 || n > MOST_MINED || outKind != A_BLOCK) {
            return REFUSED;
        }
        int target = numberAt(out.bytes, TARGET_AT);
        for (int grown = 0; grown <= n; grown++) {
            sha.digest(out.bytes, 0, HEADER_BYTES, 2, fresh, 0);
            if (outIdsDiffer && leadingTwo(fresh) < target) {
                return grown;
            }
            if (grown < n) {
                putNumber(out.bytes, NONCE_AT, numberAt(out.bytes, NONCE_AT) + 1);
            }
        }
        return NONE;
    }

    public int spend(int k, int n, int key, int value, int fee) {
        if (n < 1 || n > MOST_PARTS || value < 0 || fee < 0) {
            return REFUSED;
        }
        if (k < 0 || k > chain.coins.list.size() - n) {
            return REFUSED;
        }
        long left = -(long) value - fee;
        for (int i = 0; i < n; i++) {
            left += chain.coins.list.get(k + i).value();
        }
        if (left < 0 || left > HIGHEST_NUMBER) {
            return REFUSED;
        }
        outKind = A_PAYMENT;
        out.size = 0;
        out.addNumber(0);
        out.addByte(n);
        for (int i = 0; i < n; i++) {
            Coin spent = chain.coins.list.get(k + i);
            out.addBytes(spent.source.id, 0, HASH_BYTES);
            out.addByte(spent.index);
            out.addByte(0);
        }
        out.addByte(left > 0 ? 2 : 1);
        out.addKeyOutput(value, key);
        if (left > 0) {
            out.addKeyOutput((int) left, 0);
        }
        return out.size;
    }

    public int sign(int i, int key) {
        if (!readOutPayment() || i < 0 || i >= outPayment.inputs) {
            return REFUSED;
        }
        judge.learnSignHash(outPayment);
        putNumber(fresh, 0, key);
        System.arraycopy(outPayment.signHash, 0, fresh, 4, HASH_BYTES);
        sha.digest(fresh, 0, 4 + HASH_BYTES, 2, fresh, 1);
        fresh[0] = SIGNATURE_BYTES;
        int scriptAt = outPayment.inputAt[i] + KEY_SCRIPT_AT;
        return out.exchangeScript(scriptAt, fresh, 1 + SIGNATURE_BYTES) ? out.size : REFUSED;
    }

    public int script(int which) {
        if (tape.size > MOST_SCRIPT_BYTES || !readOutPayment()) {
            return REFUSED;
        }
        if (which < -1 || which >= outPayment.inputs) {
            return REFUSED;
        }
        int scriptAt = which == -1
                ? outPayment.outputAt[0] + LOCK_SCRIPT_AT
                : outPayment.inputAt[which] + KEY_SCRIPT_AT;
        if (!out.exchangeScript(scriptAt, tape.bytes, tape.size)) {
            return REFUSED;
        }
        tape.size = 0;
        return out.size;
    }

    public int send() {
        if (outKind == NOTHING) {
            return REFUSED;
        }
        if (outKind == A_PAYMENT) {
            return waiting.receive(out.bytes, out.size);
        }
        int answer = chain.receive(out.bytes, out.size);
        chain.settle();
        waiting.renew();
        return answer;
    }

    public int back() {
        tape.size = 0;
        tape.addBytes(out.bytes, 0, out.size);
        return tape.size;
    }

    public long tip(int what) {
        switch (what) {
            case 0:
                return chain.tip.height;
            case 1:
                return chain.tip.number;
            case 2:
                return chain.tip.work;
            case 3:
                return numberAt(chain.tip.id, 0) & 0xffffffffL;
            default:
                return REFUSED;
        }
    }

    public int stored(int n, int what) {
        if (what < 0 || what > 5) {
            return REFUSED;
        }
        Block asked = chain.numbered(n);
        if (asked == null) {
            return NONE;
        }
        switch (what) {
            case 0:
                return asked.height;
            case 1:
                return asked.parent == null ? NONE : asked.parent.number;
            case 2:
                return asked.time;
            case 3:
                return asked.target;
            case 4:
                return asked.paymentCount;
            default:
                return asked.onChain ? 1 : 0;
        }
    }

    public int coin(int k, int what) {
        if (what < 0 || what > 5) {
            return REFUSED;
        }
        if (k < 0 || k >= chain.coins.list.size()) {
            return NONE;
        }
        Coin asked = chain.coins.list.get(k);
        switch (what) {
            case 0:
                return asked.value();
            case 1:
                return asked.source.height;
            case 2:
                return asked.index;
            case 3:
                return asked.source.first ? 1 : 0;
            case 4:
                return asked.lockBytes();
            default:
                return leadingTwo(asked.source.id);
        }
    }

    public long balance() {
        long sum = 0;
        for (int i = 0; i < chain.coins.list.size(); i++) {
            Coin standing = chain.coins.list.get(i);
            if (standing.isLockedBy(tape.bytes, tape.size)) {
                sum += standing.value();
            }
        }
        tape.size = 0;
        return sum;
    }

    public int pooled(int k, int what) {
        if (what < 0 || what > 3) {
            return REFUSED;
        }
        if (k < 0 || k >= waiting.members.size()) {
            return NONE;
        }
        Payment asked = waiting.members.get(k);
        switch (what) {
            case 0:
                return asked.fee;
            case 1:
                return asked.size;
            case 2:
                return asked.inputs;
            default:
                return asked.outputs;
        }
    }

    public int octet(int i) {
        if (i == -1) {
            return out.size;
        }
        return i < 0 || i >= out.size ? NONE : out.bytes[i] & 255;
    }

    public long count(int what) {
        switch (what) {
            case 0:
                return chain.storedCount;
            case 1:
                return chain.held.size();
            case 2:
                return chain.coins.list.size();
            case 3:
                return chain.coins.total();
            case 4:
                return waiting.members.size();
            case 5:
                return chain.storedBytes;
            case 6:
                return tape.size;
            default:
                return REFUSED;
        }
    }

    private void writeHeader(Block base, int time) {
        out.addBytes(base.id, 0, HASH_BYTES);
        // Keeps the place of the root, which is known when all payments stand.
        out.addBytes(base.id, 0, HASH_BYTES);
        out.addNumber(time);
        out.addNumber(chain.dueTarget(base));
        out.addNumber(0);
    }

    private void writeFirst(int height, long fees, int key) {
        out.addNumber(height);
        out.addByte(0);
        out.addByte(1);
        out.addKeyOutput((int) (rewardAt(height) + fees), key);
    }

    /** Puts the root of the drafted block, which has so many payments of the pool, in its place. */
    private void putRoot(int others) {
        sha.digest(out.bytes, PAYMENTS_AT, FIRST_BYTES, 2, chain.ids, 0);
        outIdsDiffer = !waiting.hasAmong(others, chain.ids);
        for (int i = 0; i < others && i < waiting.members.size(); i++) {
            System.arraycopy(waiting.members.get(i).id, 0, chain.ids, (i + 1) * HASH_BYTES, HASH_BYTES);
        }
        sha.foldToRoot(chain.ids, others + 1);
        System.arraycopy(chain.ids, 0, out.bytes, ROOT_AT, HASH_BYTES);
    }

    private boolean readOutPayment() {
        return outKind == A_PAYMENT && outPayment.read(out.bytes, 0, out.size) == out.size;
    }

    private static int numberAt(byte[] bytes, int at) {
        return bytes[at] << 24
                | (bytes[at + 1] & 255) << 16
                | (bytes[at + 2] & 255) << 8
                | bytes[at + 3] & 255;
    }

    private static void putNumber(byte[] bytes, int at, int value) {
        bytes[at] = (byte) (value >> 24);
        bytes[at + 1] = (byte) (value >> 16);
        bytes[at + 2] = (byte) (value >> 8);
        bytes[at + 3] = (byte) value;
    }

    private static int leadingTwo(byte[] id) {
        return (id[0] & 255) << 8 | id[1] & 255;
    }

    /** Below, at or above 0 as the bytes of a come before, are, or come behind those of b. */
    private static int order(byte[] a, int aAt, byte[] b, int bAt, int size) {
        for (int i = 0; i < size; i++) {
            int difference = (a[aAt + i] & 255) - (b[bAt + i] & 255);
            if (difference != 0) {
                return difference;
            }
        }
        return 0;
    }

    private static int rewardAt(int height) {
        int halvings = height / 16;
        // A shift by 32 and more would begin anew.
        return halvings >= 20 ? 0 : FIRST_REWARD >> halvings;
    }

    /** TAPE or OUT: bytes that grow up to the document's limit. */
    private static final class Row {
        final byte[] bytes = new byte[MOST_ROW_BYTES];
        int size;

        void addByte(int value) {
            if (size < MOST_ROW_BYTES) {
                bytes[size] = (byte) value;
                size++;
            }
        }

        void addNumber(int value) {
            if (size <= MOST_ROW_BYTES - 4) {
                putNumber(bytes, size, value);
                size += 4;
            }
        }

        void addBytes(byte[] from, int at, int n) {
            if (n <= MOST_ROW_BYTES - size) {
                System.arraycopy(from, at, bytes, size, n);
                size += n;
            }
        }

        /** An output of a value that the signature of the key opens. */
        void addKeyOutput(int value, int key) {
            addNumber(value);
            addByte(6);
            addByte(4);
            addNumber(key);
            addByte(Machine.SIGNED);
        }

        /** Puts n bytes in the place of the script whose size stands at at; false for want of room. */
        boolean exchangeScript(int at, byte[] with, int n) {
            int former = bytes[at] & 255;
            if (size - former + n > MOST_ROW_BYTES) {
                return false;
            }
            int behind = at + 1 + former;
            System.arraycopy(bytes, behind, bytes, at + 1 + n, size - behind);
            System.arraycopy(with, 0, bytes, at + 1, n);
            bytes[at] = (byte) n;
            size += n - former;
            return true;
        }
    }

    /** SHA-256 of FIPS 180-4, in rows that all calls use again. */
    private static final class Sha {
        private static final int[] START = {
            0x6a09e667, 0xbb67ae85, 0x3c6ef372, 0xa54ff53a, 0x510e527f, 0x9b05688c, 0x1f83d9ab, 0x5be0cd19,
        };
        private static final int[] ROUNDS = {
            0x428a2f98, 0x71374491, 0xb5c0fbcf, 0xe9b5dba5, 0x3956c25b, 0x59f111f1, 0x923f82a4, 0xab1c5ed5,
            0xd807aa98, 0x12835b01, 0x243185be, 0x550c7dc3, 0x72be5d74, 0x80deb1fe, 0x9bdc06a7, 0xc19bf174,
            0xe49b69c1, 0xefbe4786, 0x0fc19dc6, 0x240ca1cc, 0x2de92c6f, 0x4a7484aa, 0x5cb0a9dc, 0x76f988da,
            0x983e5152, 0xa831c66d, 0xb00327c8, 0xbf597fc7, 0xc6e00bf3, 0xd5a79147, 0x06ca6351, 0x14292967,
            0x27b70a85, 0x2e1b2138, 0x4d2c6dfc, 0x53380d13, 0x650a7354, 0x766a0abb, 0x81c2c92e, 0x92722c85,
            0xa2bfe8a1, 0xa81a664b, 0xc24b8b70, 0xc76c51a3, 0xd192e819, 0xd6990624, 0xf40e3585, 0x106aa070,
            0x19a4c116, 0x1e376c08, 0x2748774c, 0x34b0bcb5, 0x391c0cb3, 0x4ed8aa4a, 0x5b9cca4f, 0x682e6ff3,
            0x748f82ee, 0x78a5636f, 0x84c87814, 0x8cc70208, 0x90befffa, 0xa4506ceb, 0xbef9a3f7, 0xc67178f2,
        };

        private final int[] words = new int[64];
        private final int[] state = new int[8];

        /** Writes the digest of the bytes to out; with times 2 the digest of that. out may be data. */
        void digest(byte[] data, int from, int size, int times, byte[] out, int outAt) {
            byte[] source = data;
            int at = from;
            int length = size;
            for (int pass = 0; pass < times; pass++) {
                System.arraycopy(START, 0, state, 0, 8);
                int chunks = (length + 72) / 64;
                for (int chunk = 0; chunk < chunks; chunk++) {
                    load(source, at, length, chunk * 64);
                    mix();
                }
                for (int i = 0; i < 8; i++) {
                    putNumber(out, outAt + i * 4, state[i]);
                }
                source = out;
                at = outAt;
                length = HASH_BYTES;
            }
        }

        /** Brings n ids to their root at the beginning of the row, which has room for an even n. */
        void foldToRoot(byte[] ids, int n) {
            for (int left = n; left > 1; left = (left + 1) / 2) {
                if (left % 2 != 0) {
                    System.arraycopy(ids, (left - 1) * HASH_BYTES, ids, left * HASH_BYTES, HASH_BYTES);
                }
                for (int i = 0; i < left; i += 2) {
                    digest(ids, i * HASH_BYTES, 2 * HASH_BYTES, 2, ids, i / 2 * HASH_BYTES);
                }
            }
        }

        /** The 64 bytes at begin of the message of so many bytes, with its padding, become words. */
        private void load(byte[] data, int from, int length, int begin) {
            for (int i = 0; i < 64; i++) {
                int at = begin + i;
                int value = at < length ? data[from + at] & 255 : at == length ? 128 : 0;
                words[i >> 2] = words[i >> 2] << 8 | value;
            }
            if (begin + 64 >= length + 9) {
                words[15] = length * 8;
            }
        }

        private void mix() {
            for (int i = 16; i < 64; i++) {
                int x = words[i - 15];
                int y = words[i - 2];
                int low = (x >>> 7 | x << 25) ^ (x >>> 18 | x << 14) ^ x >>> 3;
                int high = (y >>> 17 | y << 15) ^ (y >>> 19 | y << 13) ^ y >>> 10;
                words[i] = words[i - 16] + low + words[i - 7] + high;
            }
            int a = state[0];
            int b = state[1];
            int c = state[2];
            int d = state[3];
            int e = state[4];
            int f = state[5];
            int g = state[6];
            int h = state[7];
            for (int i = 0; i < 64; i++) {
                int turnedE = (e >>> 6 | e << 26) ^ (e >>> 11 | e << 21) ^ (e >>> 25 | e << 7);
                int one = h + turnedE + (e & f ^ ~e & g) + ROUNDS[i] + words[i];
                int turnedA = (a >>> 2 | a << 30) ^ (a >>> 13 | a << 19) ^ (a >>> 22 | a << 10);
                int two = turnedA + (a & b ^ a & c ^ b & c);
                h = g;
                g = f;
                f = e;
                e = d + one;
                d = c;
                c = b;
                b = a;
                a = one + two;
            }
            state[0] += a;
            state[1] += b;
            state[2] += c;
            state[3] += d;
            state[4] += e;
            state[5] += f;
            state[6] += g;
            state[7] += h;
        }
    }

    /** A TRANSACTION as it stands in bytes, with the places of its parts. */
    private static final class Payment {
        byte[] bytes;
        int start;
        int size;
        int lock;
        int inputs;
        int outputs;
        int outputsAt;
        final int[] inputAt = new int[MOST_PARTS];
        final int[] outputAt = new int[MOST_PARTS];
        final byte[] id = new byte[HASH_BYTES];
        final byte[] signHash = new byte[HASH_BYTES];
        boolean knowsSignHash;
        int fee;
        // Of the block it stands in, if it stands in one.
        int height;
        boolean first;
        private Coin[] coins;

        /** Reads one that begins at from: the place behind it, or -1 if there is none. */
        int read(byte[] data, int from, int limit) {
            bytes = data;
            start = from;
            knowsSignHash = false;
            coins = null;
            if (limit - from < 5) {
                return -1;
            }
            lock = numberAt(data, from);
            inputs = data[from + 4] & 255;
            if (lock < 0 || inputs > MOST_PARTS) {
                return -1;
            }
            outputsAt = readInputs(from + 5, limit);
            if (outputsAt < 0 || outputsAt >= limit) {
                return -1;
            }
            outputs = data[outputsAt] & 255;
            if (outputs < 1 || outputs > MOST_PARTS) {
                return -1;
            }
            int behind = readOutputs(outputsAt + 1, limit);
            size = behind - from;
            return behind;
        }

        private int readInputs(int from, int limit) {
            int at = from;
            for (int i = 0; i < inputs; i++) {
                if (limit - at <= KEY_SCRIPT_AT || (bytes[at + INDEX_AT] & 255) >= MOST_PARTS) {
                    return -1;
                }
                inputAt[i] = at;
                at = behindScript(at + KEY_SCRIPT_AT, limit);
                if (at < 0) {
                    return -1;
                }
            }
            return at;
        }

        private int readOutputs(int from, int limit) {
            int at = from;
            for (int i = 0; i < outputs; i++) {
                if (limit - at <= LOCK_SCRIPT_AT || numberAt(bytes, at) < 0) {
                    return -1;
                }
                outputAt[i] = at;
                at = behindScript(at + LOCK_SCRIPT_AT, limit);
                if (at < 0) {
                    return -1;
                }
            }
            return at;
        }

        private int behindScript(int at, int limit) {
            int length = bytes[at] & 255;
            return length > MOST_SCRIPT_BYTES || length >= limit - at ? -1 : at + 1 + length;
        }

        boolean namesACoinTwice() {
            for (int i = 1; i < inputs; i++) {
                for (int j = 0; j < i; j++) {
                    if (order(bytes, inputAt[i], bytes, inputAt[j], INDEX_AT + 1) == 0) {
                        return true;
                    }
                }
            }
            return false;
        }

        boolean names(byte[] coinId, int at, int index) {
            for (int i = 0; i < inputs; i++) {
                boolean sameIndex = bytes[inputAt[i] + INDEX_AT] == index;
                if (sameIndex && order(bytes, inputAt[i], coinId, at, HASH_BYTES) == 0) {
                    return true;
                }
            }
            return false;
        }

        long outputTotal() {
            long sum = 0;
            for (int i = 0; i < outputs; i++) {
                sum += numberAt(bytes, outputAt[i]);
            }
            return sum;
        }

        /** The coin of output i. Coins are made once, so that forks and the pool share them. */
        Coin coinOf(int i) {
            if (coins == null) {
                coins = new Coin[outputs];
                for (int k = 0; k < outputs; k++) {
                    coins[k] = new Coin(this, k);
                }
            }
            return coins[i];
        }
    }

    /** An output that can be spent. */
    private static final class Coin {
        final Payment source;
        final int index;

        Coin(Payment source, int index) {
            this.source = source;
            this.index = index;
        }

        int value() {
            return numberAt(source.bytes, source.outputAt[index]);
        }

        int lockAt() {
            return source.outputAt[index] + LOCK_SCRIPT_AT + 1;
        }

        int lockBytes() {
            return source.bytes[source.outputAt[index] + LOCK_SCRIPT_AT];
        }

        boolean isLockedBy(byte[] bytes, int size) {
            return size == lockBytes() && order(bytes, 0, source.bytes, lockAt(), size) == 0;
        }

        boolean isRipeAt(int height) {
            return !source.first || height >= source.height + RIPE_AFTER;
        }
    }

    /** Where the coins that a payment names are looked up. */
    private abstract static class View {
        /** The coin of the id that stands at at, and of the index; null if it is not there. */
        abstract Coin find(byte[] id, int at, int index);
    }

    /** The coins at the end of the followed chain, in the order of ids and indexes. */
    private static final class Coins extends View {
        final ArrayList<Coin> list = new ArrayList<>();

        Coin find(byte[] id, int at, int index) {
            int place = placeOf(id, at, index);
            if (place >= list.size()) {
                return null;
            }
            Coin there = list.get(place);
            boolean same = there.index == index && order(there.source.id, 0, id, at, HASH_BYTES) == 0;
            return same ? there : null;
        }

        void insert(Coin coin) {
            list.add(placeOf(coin.source.id, 0, coin.index), coin);
        }

        void remove(Coin coin) {
            int place = placeOf(coin.source.id, 0, coin.index);
            if (place < list.size()) {
                list.remove(place);
            }
        }

        void insertAll(Payment payment) {
            for (int i = 0; i < payment.outputs; i++) {
                insert(payment.coinOf(i));
            }
        }

        void removeAll(Payment payment) {
            for (int i = 0; i < payment.outputs; i++) {
                remove(payment.coinOf(i));
            }
        }

        long total() {
            long sum = 0;
            for (int i = 0; i < list.size(); i++) {
                sum += list.get(i).value();
            }
            return sum;
        }

        /** How many coins come before the one of this name. */
        private int placeOf(byte[] id, int at, int index) {
            int low = 0;
            int high = list.size();
            while (low < high) {
                int middle = (low + high) / 2;
                Coin there = list.get(middle);
                int difference = order(there.source.id, 0, id, at, HASH_BYTES);
                if (difference < 0 || difference == 0 && there.index < index) {
                    low = middle + 1;
                } else {
                    high = middle;
                }
            }
            return low;
        }
    }

    /** The stack on which the two scripts of an input run. */
    private static final class Machine {
        static final int LONGEST_ELEMENT = 75;
        static final int DUP = 80, DROP = 81, SWAP = 82, OVER = 83, SIZE = 85;
        static final int EQUAL = 86, VERIFY = 87, NOT = 88, ADD = 89, SUB = 90, LESS = 91, AND = 92;
        static final int SHA = 93, HASH = 94, SIGNED = 95, AFTER = 96;
        static final int IF = 97, ELSE = 99, END = 100, ONE = 102, MANY = 103;
        private static final int MOST_ELEMENTS = 24;
        // No int has this value.
        private static final long NO_NUMBER = 1L << 40;

        private final Sha sha;
        private final byte[][] stack = new byte[MOST_ELEMENTS][MOST_SCRIPT_BYTES];
        private final int[] sizes = new int[MOST_ELEMENTS];
        private int depth;
        private final boolean[] branches = new boolean[MOST_SCRIPT_BYTES];
        private int open;
        // How many of the open branches are not done; all that stands in one is passed over.
        private int passing;
        private final byte[] message = new byte[MOST_SCRIPT_BYTES + HASH_BYTES];
        private final byte[] digest = new byte[HASH_BYTES];
        private byte[] signHash;
        private int height;

        Machine(Sha sha) {
            this.sha = sha;
            signHash = new byte[HASH_BYTES];
        }

        void start(byte[] hashToSign, int blockHeight) {
            depth = 0;
            signHash = hashToSign;
            height = blockHeight;
        }

        /** Runs one script: false if something in it fails, or an END of it is not there. */
        boolean run(byte[] code, int from, int size) {
            int stop = from + size;
            open = 0;
            passing = 0;
            for (int at = from; at < stop; at++) {
                int op = code[at] & 255;
                boolean fine = true;
                if (op <= LONGEST_ELEMENT) {
                    fine = op < stop - at && (passing > 0 || push(code, at + 1, op));
                    at += op;
                } else if (op >= IF && op <= END) {
                    fine = turn(op);
                } else if (passing == 0) {
                    fine = op == SIGNED || op == MANY ? checkSignatures(op == MANY) : step(op);
                }
                if (!fine) {
                    return false;
                }
            }
            return open == 0;
        }

        boolean endsTrue() {
            return depth > 0 && isTrue(depth - 1);
        }

        private boolean turn(int op) {
            if (op == ELSE || op == END) {
                if (open == 0) {
                    return false;
                }
                boolean done = branches[open - 1];
                if (op == ELSE) {
                    branches[open - 1] = !done;
                    passing += done ? 1 : -1;
                } else {
                    open--;
                    passing -= done ? 0 : 1;
                }
                return true;
            }
            boolean done = false;
            if (passing == 0) {
                if (depth < 1) {
                    return false;
                }
                depth--;
                done = isTrue(depth) == (op == IF);
            }
            branches[open] = done;
            open++;
            passing += done ? 0 : 1;
            return true;
        }

        private boolean step(int op) {
            if (depth < needs(op)) {
                return false;
            }
            int last = depth - 1;
            switch (op) {
                case DUP:
                    return push(stack[last], 0, sizes[last]);
                case DROP:
                    depth--;
                    return true;
                case SWAP:
                    swapLastTwo();
                    return true;
                case OVER:
                    return push(stack[last - 1], 0, sizes[last - 1]);
                case SIZE:
                    return pushNumber(sizes[last]);
                case EQUAL:
                    return answer(2, isSame(last - 1, last));
                case VERIFY:
                    depth--;
                    return isTrue(last);
                case NOT:
                    return numberOf(last) != NO_NUMBER && answer(1, numberOf(last) == 0);
                case ADD:
                case SUB:
                case LESS:
                    return reckon(op, numberOf(last - 1), numberOf(last));
                case AND:
                    return answer(2, isTrue(last - 1) && isTrue(last));
                case SHA:
                case HASH:
                    sha.digest(stack[last], 0, sizes[last], op == SHA ? 1 : 2, stack[last], 0);
                    sizes[last] = HASH_BYTES;
                    return true;
                case AFTER:
                    depth--;
                    return numberOf(last) != NO_NUMBER && height >= numberOf(last);
                case ONE:
                    return pushNumber(1);
                default:
                    return false;
            }
        }

        private static int needs(int op) {
            switch (op) {
                case SWAP:
                case OVER:
                case EQUAL:
                case ADD:
                case SUB:
                case LESS:
                case AND:
                    return 2;
                case ONE:
                    return 0;
                default:
                    return 1;
            }
        }

        private boolean reckon(int op, long a, long b) {
            if (a == NO_NUMBER || b == NO_NUMBER) {
                return false;
            }
            depth -= 2;
            if (op == LESS) {
                return pushNumber(a < b ? 1 : 0);
            }
            return pushNumber((int) (op == ADD ? a + b : a - b));
        }

        /**
         * SIGNED, or MANY: the same with how many of each on the stack. Going down both rows at once
         * finds keys for all signatures if there are some, as each takes the latest key it can.
         */
        private boolean checkSignatures(boolean many) {
            int keys = many ? smallNumber(depth - 1, MOST_PARTS) : 1;
            if (keys < 0) {
                return false;
            }
            int key = many ? depth - 2 : depth - 1;
            int signature = key - keys;
            int missing = many ? smallNumber(signature, keys) : 1;
            if (missing < 0) {
                return false;
            }
            signature -= many ? 1 : 0;
            int rest = signature + 1 - missing;
            if (rest < 0) {
                return false;
            }
            for (int left = keys; left > 0 && missing > 0; left--) {
                System.arraycopy(stack[key], 0, message, 0, sizes[key]);
                System.arraycopy(signHash, 0, message, sizes[key], HASH_BYTES);
                sha.digest(message, 0, sizes[key] + HASH_BYTES, 2, digest, 0);
                boolean fits = sizes[signature] == SIGNATURE_BYTES
                        && order(digest, 0, stack[signature], 0, SIGNATURE_BYTES) == 0;
                if (fits) {
                    signature--;
                    missing--;
                }
                key--;
            }
            depth = rest;
            return pushNumber(missing == 0 ? 1 : 0);
        }

        private boolean push(byte[] from, int at, int size) {
            if (depth >= MOST_ELEMENTS || size > MOST_SCRIPT_BYTES) {
                return false;
            }
            System.arraycopy(from, at, stack[depth], 0, size);
            sizes[depth] = size;
            depth++;
            return true;
        }

        private boolean pushNumber(int value) {
            if (depth >= MOST_ELEMENTS) {
                return false;
            }
            for (int i = 0; i < 4; i++) {
                stack[depth][i] = (byte) (value >> 24 - 8 * i);
            }
            sizes[depth] = value == 0 ? 0 : 4;
            depth++;
            return true;
        }

        private boolean answer(int going, boolean yes) {
            depth -= going;
            return pushNumber(yes ? 1 : 0);
        }

        private void swapLastTwo() {
            byte[] row = stack[depth - 1];
            stack[depth - 1] = stack[depth - 2];
            stack[depth - 2] = row;
            int size = sizes[depth - 1];
            sizes[depth - 1] = sizes[depth - 2];
            sizes[depth - 2] = size;
        }

        private boolean isTrue(int place) {
            for (int i = 0; i < sizes[place]; i++) {
                if (stack[place][i] != 0) {
                    return true;
                }
            }
            return false;
        }

        private boolean isSame(int a, int b) {
            return sizes[a] == sizes[b] && order(stack[a], 0, stack[b], 0, sizes[a]) == 0;
        }

        /** The element as a number, or NO_NUMBER if it has too many bytes. */
        private long numberOf(int place) {
            if (sizes[place] > 4) {
                return NO_NUMBER;
            }
            // The first byte keeps its sign, however many follow.
            int value = sizes[place] == 0 ? 0 : stack[place][0];
            for (int i = 1; i < sizes[place]; i++) {
                value = value << 8 | stack[place][i] & 255;
            }
            return value;
        }

        /** The element as a number from 0 to most, or -1 if it is no such number or is not there. */
        private int smallNumber(int place, int most) {
            if (place < 0) {
                return -1;
            }
            long number = numberOf(place);
            return number < 0 || number > most ? -1 : (int) number;
        }
    }

    /** Says whether a payment may stand behind others in a block. */
    private static final class Judge {
        private final Sha sha;
        private final Machine machine;
        private final Row work = new Row();
        /** The coins of the inputs that verify has found last. */
        final Coin[] found = new Coin[MOST_PARTS];

        Judge(Sha sha) {
            this.sha = sha;
            machine = new Machine(sha);
        }

        /** The fee of a payment that may come in a block of this height on the coins in view, or RULE. */
        long verify(Payment payment, int height, View view) {
            if (payment.inputs == 0 || payment.lock > height || payment.namesACoinTwice()) {
                return RULE;
            }
            for (int i = 0; i < payment.outputs; i++) {
                if (view.find(payment.id, 0, i) != null) {
                    return RULE;
                }
            }
            learnSignHash(payment);
            long left = -payment.outputTotal();
            for (int i = 0; i < payment.inputs; i++) {
                int at = payment.inputAt[i];
                Coin coin = view.find(payment.bytes, at, payment.bytes[at + INDEX_AT]);
                if (coin == null || !coin.isRipeAt(height)) {
                    return RULE;
                }
                int keyAt = at + KEY_SCRIPT_AT;
                machine.start(payment.signHash, height);
                boolean opens = machine.run(payment.bytes, keyAt + 1, payment.bytes[keyAt])
                        && machine.run(coin.source.bytes, coin.lockAt(), coin.lockBytes())
                        && machine.endsTrue();
                if (!opens) {
                    return RULE;
                }
                found[i] = coin;
                left += coin.value();
            }
            return left < 0 ? RULE : left;
        }

        void learnSignHash(Payment payment) {
            if (payment.knowsSignHash) {
                return;
            }
            work.size = 0;
            work.addBytes(payment.bytes, payment.start, 5);
            for (int i = 0; i < payment.inputs; i++) {
                work.addBytes(payment.bytes, payment.inputAt[i], KEY_SCRIPT_AT);
                work.addByte(0);
            }
            int behindInputs = payment.start + payment.size - payment.outputsAt;
            work.addBytes(payment.bytes, payment.outputsAt, behindInputs);
            sha.digest(work.bytes, 0, work.size, 2, payment.signHash, 0);
            payment.knowsSignHash = true;
        }
    }

    /** A BLOCK, read, and then held or stored. */
    private static final class Block {
        byte[] bytes;
        int size;
        final byte[] id = new byte[HASH_BYTES];
        int time;
        int target;
        int paymentCount;
        final Payment[] payments = new Payment[MOST_PAYMENTS];
        int arrival;
        Block parent;
        int number;
        int height;
        long work;
        boolean sound;
        boolean unsound;
        boolean onChain;
        /** How many of its payments, from the first on, may come; known since it was connected. */
        int applied;
        /** The coins that those take, in their order. */
        final ArrayList<Coin> spent = new ArrayList<>();

        /** Reads the bytes: whether they are a well formed block. ids is a row to reckon in. */
        boolean read(byte[] data, int length, Sha sha, byte[] ids) {
            bytes = data;
            size = length;
            if (length < PAYMENTS_AT) {
                return false;
            }
            time = numberAt(data, TIME_AT);
            target = numberAt(data, TARGET_AT);
            paymentCount = data[HEADER_BYTES] & 255;
            if (time < 0 || target < 1 || target > HIGHEST_TARGET) {
                return false;
            }
            if (paymentCount < 1 || paymentCount > MOST_PAYMENTS) {
                return false;
            }
            sha.digest(data, 0, HEADER_BYTES, 2, id, 0);
            return leadingTwo(id) < target && readPayments(sha) && idsDiffer() && rootFits(sha, ids);
        }

        private boolean readPayments(Sha sha) {
            int at = PAYMENTS_AT;
            for (int i = 0; i < paymentCount; i++) {
                if (payments[i] == null) {
                    payments[i] = new Payment();
                }
                at = payments[i].read(bytes, at, size);
                if (at < 0) {
                    return false;
                }
                sha.digest(bytes, payments[i].start, payments[i].size, 2, payments[i].id, 0);
            }
            return at == size;
        }

        private boolean idsDiffer() {
            for (int i = 1; i < paymentCount; i++) {
                for (int j = 0; j < i; j++) {
                    if (order(payments[i].id, 0, payments[j].id, 0, HASH_BYTES) == 0) {
                        return false;
                    }
                }
            }
            return true;
        }

        private boolean rootFits(Sha sha, byte[] ids) {
            for (int i = 0; i < paymentCount; i++) {
                System.arraycopy(payments[i].id, 0, ids, i * HASH_BYTES, HASH_BYTES);
            }
            sha.foldToRoot(ids, paymentCount);
            return order(ids, 0, bytes, ROOT_AT, HASH_BYTES) == 0;
        }

        /** Takes a copy of the bytes, which were read from a row that changes. */
        void ownBytes() {
            bytes = Arrays.copyOf(bytes, size);
            for (int i = 0; i < paymentCount; i++) {
                payments[i].bytes = bytes;
            }
        }

        boolean outranks(Block other) {
            return work > other.work || work == other.work && arrival < other.arrival;
        }
    }

    /** The blocks that are stored and held, the tip, and the coins at its end. */
    private static final class Chain {
        private final Sha sha;
        private final Judge judge;
        final Coins coins = new Coins();
        private final Block[] blocks = new Block[MOST_STORED];
        int storedCount;
        int storedBytes;
        final ArrayList<Block> held = new ArrayList<>();
        Block tip;
        /** A row in which the ids of a block's payments become its root. */
        final byte[] ids = new byte[MOST_PAYMENTS * HASH_BYTES];
        /** The blocks that the last settling has left behind, the highest first. */
        final Block[] left = new Block[MOST_STORED];
        int leftCount;
        private final Block[] path = new Block[MOST_STORED];
        private int pathCount;
        private final int[] times = new int[MEDIAN_SPAN];
        private int arrivals;
        private int settled;
        private Block spare;

        Chain(Sha sha, Judge judge) {
            this.sha = sha;
            this.judge = judge;
            Block root = new Block();
            root.target = FIRST_TARGET;
            root.sound = true;
            root.onChain = true;
            blocks[0] = root;
            storedCount = 1;
            settled = 1;
            tip = root;
        }

        Block numbered(int n) {
            return n < 0 || n >= storedCount ? null : blocks[n];
        }

        /** A block comes: its number if it is stored, 1000 if it is held, or why it is neither. */
        int receive(byte[] data, int size) {
            // What is not kept is read over by the next one.
            if (spare == null) {
                spare = new Block();
            }
            Block coming = spare;
            if (!coming.read(data, size, sha, ids)) {
                return FORM;
            }
            if (findStored(coming.id) != null || isHeld(coming.id)) {
                return KNOWN;
            }
            Block parent = findStored(data);
            if (parent == null && held.size() >= MOST_HELD) {
                return FULL;
            }
            if (parent != null && !followsRules(coming, parent)) {
                return RULE;
            }
            if (parent != null && !hasRoomFor(coming)) {
                return FULL;
            }
            spare = null;
            coming.ownBytes();
            arrivals++;
            coming.arrival = arrivals;
            if (parent == null) {
                held.add(coming);
                return HELD_ANSWER;
            }
            store(coming, parent);
            releaseHeld();
            return coming.number;
        }

        /** The stored block whose id stands at the beginning of the bytes, or null. */
        private Block findStored(byte[] bytes) {
            for (int i = 0; i < storedCount; i++) {
                if (order(blocks[i].id, 0, bytes, 0, HASH_BYTES) == 0) {
                    return blocks[i];
                }
            }
            return null;
        }

        private boolean isHeld(byte[] id) {
            for (int i = 0; i < held.size(); i++) {
                if (order(held.get(i).id, 0, id, 0, HASH_BYTES) == 0) {
                    return true;
                }
            }
            return false;
        }

        private boolean hasRoomFor(Block coming) {
            return storedCount < MOST_STORED && storedBytes + coming.size <= MOST_STORED_BYTES;
        }

        private boolean followsRules(Block coming, Block parent) {
            return coming.time > medianTime(parent) && coming.target == dueTarget(parent);
        }

        /** The median of the times of the block and of those before it. */
        private int medianTime(Block latest) {
            int n = 0;
            for (Block b = latest; b != null && n < MEDIAN_SPAN; b = b.parent) {
                int at = n;
                for (; at > 0 && times[at - 1] > b.time; at--) {
                    times[at] = times[at - 1];
                }
                times[at] = b.time;
                n++;
            }
            return times[n / 2];
        }

        int dueTarget(Block parent) {
            if ((parent.height + 1) % TARGET_SPAN != 0) {
                return parent.target;
            }
            Block early = parent;
            for (int i = 1; i < TARGET_SPAN && early.parent != null; i++) {
                early = early.parent;
            }
            int span = Math.max(20, Math.min(320, parent.time - early.time));
            return Math.max(LOWEST_TARGET, Math.min(HIGHEST_TARGET, parent.target * span / 80));
        }

        private void store(Block coming, Block parent) {
            coming.parent = parent;
            coming.number = storedCount;
            coming.height = parent.height + 1;
            coming.work = parent.work + WHOLE_WORK / Math.max(1, coming.target);
            for (int i = 0; i < coming.paymentCount; i++) {
                coming.payments[i].height = coming.height;
                coming.payments[i].first = i == 0;
            }
            blocks[storedCount] = coming;
            storedCount++;
            storedBytes += coming.size;
        }

        private void releaseHeld() {
            // Each turn takes one out.
            for (int turn = 0; turn < MOST_HELD; turn++) {
                int ready = firstReady();
                if (ready < 0) {
                    return;
                }
                Block coming = held.remove(ready);
                Block parent = findStored(coming.bytes);
                if (parent != null && followsRules(coming, parent) && hasRoomFor(coming)) {
                    store(coming, parent);
                }
            }
        }

        private int firstReady() {
            for (int i = 0; i < held.size(); i++) {
                if (findStored(held.get(i).bytes) != null) {
                    return i;
                }
            }
            return -1;
        }

        /**
         * Follows the best of the blocks that were stored since the last time. Whether a block is
         * sound is asked only if it would be the tip: so of those that rank below the tip it may not
         * be known, but all that rank above it are known to be unsound.
         */
        void settle() {
            Block former = tip;
            for (; settled < storedCount; settled++) {
                Block best = blocks[settled];
                if (!best.outranks(tip) || !findPathTo(best)) {
                    continue;
                }
                Block before = tip;
                Block fork = path[pathCount - 1].parent;
                retractTo(fork);
                int next = pathCount - 1;
                while (next >= 0 && connect(path[next])) {
                    tip = path[next];
                    next--;
                }
                if (next >= 0) {
                    retractTo(fork);
                    returnTo(before);
                }
            }
            listLeft(former);
        }

        /** The path from the followed chain up to the block; false if one on it is unsound. */
        private boolean findPathTo(Block best) {
            pathCount = 0;
            for (Block b = best; b != null && !b.onChain; b = b.parent) {
                if (b.unsound) {
                    best.unsound = true;
                    return false;
                }
                path[pathCount] = b;
                pathCount++;
            }
            return pathCount > 0;
        }

        private void retractTo(Block fork) {
            for (Block b = tip; b != null && b != fork; b = b.parent) {
                retract(b);
            }
            tip = fork;
        }

        private void returnTo(Block former) {
            listLeft(former);
            for (int i = leftCount - 1; i >= 0; i--) {
                repeat(left[i]);
            }
            tip = former;
        }

        private void listLeft(Block former) {
            leftCount = 0;
            for (Block b = former; b != null && !b.onChain; b = b.parent) {
                left[leftCount] = b;
                leftCount++;
            }
        }

        /** Brings the coins to the end of a block on the tip, if it is sound; else leaves them. */
        private boolean connect(Block next) {
            if (next.sound) {
                repeat(next);
                return true;
            }
            Payment first = next.payments[0];
            boolean fits = first.inputs == 0 && first.lock == next.height && isNew(first);
            long allowed = rewardAt(next.height);
            if (fits) {
                coins.insertAll(first);
                next.applied = 1;
            }
            for (int i = 1; fits && i < next.paymentCount; i++) {
                Payment payment = next.payments[i];
                long fee = judge.verify(payment, next.height, coins);
                fits = fee >= 0;
                if (fits) {
                    take(next, payment.inputs);
                    coins.insertAll(payment);
                    next.applied = i + 1;
                    allowed += fee;
                }
            }
            next.sound = fits && first.outputTotal() <= allowed;
            next.onChain = next.sound;
            if (!next.sound) {
                retract(next);
                next.unsound = true;
            }
            return next.sound;
        }

        private boolean isNew(Payment first) {
            for (int i = 0; i < first.outputs; i++) {
                if (coins.find(first.id, 0, i) != null) {
                    return false;
                }
            }
            return true;
        }

        private void take(Block next, int inputs) {
            for (int i = 0; i < inputs; i++) {
                coins.remove(judge.found[i]);
                next.spent.add(judge.found[i]);
            }
        }

        // What comes and goes is repeated in its order, and taken back in the opposite one: a coin may go and
        // another one of its name come in the same block.
        private void repeat(Block next) {
            int taken = 0;
            for (int i = 0; i < next.applied; i++) {
                Payment payment = next.payments[i];
                for (int k = 0; k < payment.inputs && taken < next.spent.size(); k++) {
                    coins.remove(next.spent.get(taken));
                    taken++;
                }
                coins.insertAll(payment);
            }
            next.onChain = true;
        }

        private void retract(Block last) {
            int taken = last.spent.size();
            for (int i = last.applied - 1; i >= 0; i--) {
                Payment payment = last.payments[i];
                coins.removeAll(payment);
                for (int k = 0; k < payment.inputs && taken > 0; k++) {
                    taken--;
                    coins.insert(last.spent.get(taken));
                }
            }
            last.onChain = false;
        }
    }

    /** THE POOL, and the coins as they stand behind its payments. */
    private static final class Pool extends View {
        private final Sha sha;
        private final Judge judge;
        private final Chain chain;
        ArrayList<Payment> members = new ArrayList<>();
        private ArrayList<Payment> former = new ArrayList<>();
        private Block base;
        private Payment spare;

        Pool(Sha sha, Judge judge, Chain chain) {
            this.sha = sha;
            this.judge = judge;
            this.chain = chain;
            base = chain.tip;
        }

        /** A payment comes: its fee, or why it does not enter. */
        int receive(byte[] data, int size) {
            // What is not kept is read over by the next one.
            if (spare == null) {
                spare = new Payment();
            }
            Payment coming = spare;
            if (coming.read(data, 0, size) != size) {
                return FORM;
            }
            sha.digest(data, 0, size, 2, coming.id, 0);
            int answer = admit(coming);
            if (answer >= 0) {
                coming.bytes = Arrays.copyOf(data, size);
                spare = null;
            }
            return answer;
        }

        /** Makes the pool anew if the tip is another one than that it was made for. */
        void renew() {
            if (base == chain.tip) {
                return;
            }
            base = chain.tip;
            ArrayList<Payment> emptied = former;
            emptied.clear();
            former = members;
            members = emptied;
            for (int i = chain.leftCount - 1; i >= 0; i--) {
                Block leaving = chain.left[i];
                for (int k = 1; k < leaving.paymentCount; k++) {
                    admit(leaving.payments[k]);
                }
            }
            for (int i = 0; i < former.size(); i++) {
                admit(former.get(i));
            }
        }

        private int admit(Payment coming) {
            if (coming.inputs == 0 || coming.size > MOST_POOLED_BYTES) {
                return FORM;
            }
            if (hasAmong(members.size(), coming.id)) {
                return KNOWN;
            }
            if (members.size() >= MOST_POOLED) {
                return FULL;
            }
            long fee = judge.verify(coming, chain.tip.height + 1, this);
            if (fee < 0) {
                return RULE;
            }
            coming.fee = (int) fee;
            members.add(coming);
            return coming.fee;
        }

        /** Whether one of the first n members has the id that the bytes begin with. */
        boolean hasAmong(int n, byte[] id) {
            for (int i = 0; i < n && i < members.size(); i++) {
                if (order(members.get(i).id, 0, id, 0, HASH_BYTES) == 0) {
                    return true;
                }
            }
            return false;
        }

        // The latest member that makes or takes a coin of the name has the last word: it may have gone and come.
        Coin find(byte[] id, int at, int index) {
            for (int i = members.size() - 1; i >= 0; i--) {
                Payment member = members.get(i);
                if (index < member.outputs && order(member.id, 0, id, at, HASH_BYTES) == 0) {
                    return member.coinOf(index);
                }
                if (member.names(id, at, index)) {
                    return null;
                }
            }
            return chain.coins.find(id, at, index);
        }

        /** How many members, from the first on, fit in a block behind so many bytes. */
        int fitting(int bytes) {
            int n = 0;
            int sum = bytes;
            while (n < members.size() && n + 1 < MOST_PAYMENTS) {
                sum += members.get(n).size;
                if (sum > MOST_ROW_BYTES) {
                    return n;
                }
                n++;
            }
            return n;
        }

        long feesOf(int n) {
            long sum = 0;
            for (int i = 0; i < n && i < members.size(); i++) {
                sum += members.get(i).fee;
            }
            return sum;
        }
    }
}

import java.nio.ByteBuffer;
import java.util.ArrayList;
import java.util.Arrays;
import java.util.List;

/**
 * The terms of the document that say how bytes must stand, sentence by sentence: the last case that is
 * within, and the first that is not.
 */
public final class FormEdgesTest {
    private static final int FORM = -3, FULL = -5, RULE = -6;
    private static final int HIGHEST = Integer.MAX_VALUE, LOWEST = Integer.MIN_VALUE;
    private static final byte[] NO_LOCK = {};
    private static final String COIN = "ab".repeat(32) + "00";

    public static void main(String[] args) {
        tape();
        out();
        numbers();
        nonces();
        inputs();
        indexes();
        keyScripts();
        outputs();
        lockScripts();
        indexesFromZero();
        transactions();
        nothingMore();
        roots();
        otherRoots();
        targets();
        sameIds();
        belowTarget();
        Rig.finish("FormEdgesTest");
    }

    private static void due(String what, long got, long want) {
        Rig.due(what, got, want);
    }

    private static Model.Tx plain() {
        return Rig.first(1, 5, NO_LOCK);
    }

    /** What a new object answers to a block of the plain first payment and this one behind it. */
    private static int with(Model.Tx second) {
        return new Rig().block(Rig.raw(2, plain().bytes, second.write()));
    }

    private static Model.Tx second() {
        return Rig.payment(1, NO_LOCK, COIN);
    }

    private static void tape() {
        Rig.says("TAPE and OUT have bytes, none at first, at most 4096.");
        ChainLedger x = new ChainLedger();
        due("tape at first", x.count(6), 0);
        for (int n = 1; n <= 204; n++) {
            due("feed " + n, x.feed(0, 0, 0, 0, 0), 20 * n);
        }
        due("cut", x.end(4076), 4076);
        due("to 4096", x.feed(0, 0, 0, 0, 0), 4096);
        due("cut to one more", x.end(4077), 4077);
        due("to 4097", x.feed(0, 0, 0, 0, 0), FULL);
        due("stays", x.count(6), 4077);
    }

    private static void out() {
        Rig.says("TAPE and OUT have bytes, none at first, at most 4096.");
        due("out at first", new ChainLedger().octet(-1), 0);
        for (int more = 0; more <= 1; more++) {
            Rig rig = Rig.withCoins(Rig.first(1, 50, NO_LOCK, NO_LOCK, NO_LOCK, NO_LOCK, NO_LOCK, NO_LOCK));
            Model.Tx first = Rig.first(1, 50, NO_LOCK, NO_LOCK, NO_LOCK, NO_LOCK, NO_LOCK, NO_LOCK);
            for (int i = 0; i < 4; i++) {
                due("payment of 797", rig.pay(Rig.longOne(first, i, 0, 77).bytes), 0);
            }
            due("payment that fills", rig.pay(Rig.longOne(first, 4, 0, 30, 30 + more).bytes), 0);
            due("out of 4096 and " + more, rig.x.draft(-1, 100, 1, true), more == 0 ? 4096 : 94 + 4 * 797);
            due("out has it", rig.x.octet(-1), more == 0 ? 4096 : 94 + 4 * 797);
            due("and the tape", rig.x.back(), more == 0 ? 4096 : 94 + 4 * 797);
        }
    }

    private static void numbers() {
        Rig.says("NUMBERS of 4 bytes have the highest first, and are ints at or above 0 (NONCE: any).");
        Rig rig = new Rig();
        rig.x.draft(0, 0x01020304, 1, false);
        for (int i = 0; i < 4; i++) {
            due("byte " + i + " of time", rig.x.octet(64 + i), i + 1);
        }
        for (int number : new int[] {0, HIGHEST, LOWEST, -1}) {
            int asDue = number >= 0 ? 1 : FORM;
            Model.Tx lock = second();
            lock.lock = number;
            due("lock " + number, with(lock), asDue);
            Model.Tx value = second();
            value.outs.get(0).value = number;
            due("value " + number, with(value), asDue);
            due("target " + number, new Rig().block(Rig.mined(Rig.ZEROS, 10, number, plain())), FORM);
        }
        due("time 0", new Rig().block(Rig.mined(Rig.ZEROS, 0, 32768, plain())), RULE);
        due("highest time", new Rig().block(Rig.mined(Rig.ZEROS, HIGHEST, 32768, plain())), 1);
        due("lowest time", new Rig().block(Rig.mined(Rig.ZEROS, LOWEST, 32768, plain())), FORM);
        due("time -1", new Rig().block(Rig.mined(Rig.ZEROS, -1, 32768, plain())), FORM);
    }

    private static void nonces() {
        Rig.says("NUMBERS of 4 bytes have the highest first, and are ints at or above 0 (NONCE: any).");
        for (int nonce : new int[] {0, HIGHEST, LOWEST, -1}) {
            int time = 1;
            byte[] block = withNonce(time, nonce);
            while (Model.leading(block) >= 32768) {
                time++;
                block = withNonce(time, nonce);
            }
            due("nonce " + nonce, new Rig().block(block), 1);
        }
    }

    private static byte[] withNonce(int time, int nonce) {
        return Model.blockBytes(new Model.Node(), time, 32768, nonce, List.of(plain()));
    }

    private static String[] coins(int n) {
        String[] coins = new String[n];
        for (int i = 0; i < n; i++) {
            coins[i] = "ab".repeat(31) + "0" + i + "00";
        }
        return coins;
    }

    private static void inputs() {
        Rig.says("a byte, how many INPUTS (0 to 8)");
        for (int n = 0; n <= 10; n++) {
            due("inputs " + n, with(Rig.payment(1, NO_LOCK, coins(n))), n <= 8 ? 1 : FORM);
        }
        // The byte alone, with no inputs behind it.
        for (int n = 9; n <= 255; n++) {
            due("byte " + n, new Rig().block(Rig.raw(2, plain().bytes,
                    Model.bytes(0, 0, 0, 0, n, 1, 0, 0, 0, 0, 0))), FORM);
        }
    }

    private static void indexes() {
        Rig.says("INDEX (a byte 0 to 7) of a coin");
        for (int index : new int[] {0, 1, 6, 7, 8, 9, 127, 128, 255}) {
            String coin = "ab".repeat(32) + Model.hex(Model.bytes(index));
            due("index " + index, with(Rig.payment(1, NO_LOCK, coin)), index <= 7 ? 1 : FORM);
        }
    }

    private static void keyScripts() {
        Rig.says("A SCRIPT: a byte, how many (0 to 80), and these bytes.");
        for (int size : new int[] {0, 1, 79, 80, 81, 82, 127, 128, 255}) {
            due("key script of " + size, with(Rig.keyed(second(), new byte[size])), size <= 80 ? 1 : FORM);
        }
    }

    private static void outputs() {
        Rig.says("a byte, how many OUTPUTS (1 to 8)");
        for (int n = 0; n <= 10; n++) {
            Model.Tx tx = second();
            tx.outs.clear();
            for (int i = 0; i < n; i++) {
                tx.outs.add(Rig.output(i, NO_LOCK));
            }
            due("outputs " + n, with(tx), n >= 1 && n <= 8 ? 1 : FORM);
        }
        for (int n = 9; n <= 255; n++) {
            byte[] bytes = second().bytes;
            bytes[39] = (byte) n;
            due("byte " + n, new Rig().block(Rig.raw(2, plain().bytes, bytes)), FORM);
        }
    }

    private static void lockScripts() {
        Rig.says("A SCRIPT: a byte, how many (0 to 80), and these bytes.");
        for (int size : new int[] {0, 1, 79, 80, 81, 82, 127, 128, 255}) {
            Model.Tx tx = second();
            tx.outs.set(0, Rig.output(1, new byte[size]));
            due("lock script of " + size, with(tx), size <= 80 ? 1 : FORM);
            byte[] cut = tx.write();
            cut = Arrays.copyOf(cut, cut.length - 1);
            due("lock script of " + size + " without its last byte",
                    new Rig().block(Rig.raw(2, plain().bytes, cut)), FORM);
        }
    }

    private static void indexesFromZero() {
        Rig.says("A COIN is an OUTPUT, named by its TRANSACTION's ID and its INDEX (from 0).");
        byte[][] locks = new byte[8][0];
        Model.Tx first = Rig.first(1, 50, locks);
        Rig rig = Rig.withCoins(first);
        for (int i = 0; i < 8; i++) {
            Model.Tx pays = Rig.keyed(Rig.payment(50 - i, NO_LOCK, Rig.coin(first, i)), Model.bytes(102));
            due("coin of index " + i, rig.pay(pays.bytes), i);
        }
        Model.Tx two = Rig.first(1, 50, NO_LOCK, NO_LOCK);
        Rig fewer = Rig.withCoins(two);
        due("index 2 of two", fewer.pay(Rig.keyed(
                Rig.payment(1, NO_LOCK, Rig.coin(two, 2)), Model.bytes(102)).bytes), RULE);
        due("index 1 of two", fewer.pay(Rig.keyed(
                Rig.payment(1, NO_LOCK, Rig.coin(two, 1)), Model.bytes(102)).bytes), 49);
    }

    private static byte[][] payments(int n) {
        byte[][] payments = new byte[n][];
        for (int i = 0; i < n; i++) {
            payments[i] = Rig.first(i + 1, i, NO_LOCK).bytes;
        }
        return payments;
    }

    private static void transactions() {
        Rig.says("a byte, how many TRANSACTIONS (1 to 32), then these, and nothing more");
        byte[] none = Arrays.copyOf(Rig.raw(0, plain().bytes), 77);
        due("none", new Rig().block(none), FORM);
        due("none, but there is one", new Rig().block(Rig.raw(0, plain().bytes)), FORM);
        Rig again = new Rig();
        due("one", again.block(Rig.raw(1, plain().bytes)), 1);
        due("none, with the root of the one before", again.block(none), FORM);
        for (int n : new int[] {1, 2, 31, 32, 33, 34}) {
            due("of " + n, new Rig().block(Rig.raw(n, payments(n))), n <= 32 ? 1 : FORM);
        }
        for (int n = 33; n <= 255; n++) {
            due("byte " + n, new Rig().block(Rig.raw(n, payments(32))), FORM);
        }
        Rig rig = new Rig();
        rig.block(Rig.raw(32, payments(32)));
        due("it has 32", rig.x.stored(1, 4), 32);
    }

    private static void nothingMore() {
        Rig.says("a byte, how many TRANSACTIONS (1 to 32), then these, and nothing more");
        byte[] right = Rig.raw(2, payments(2));
        for (int size = 0; size < right.length; size++) {
            due("its first " + size, new Rig().block(Arrays.copyOf(right, size)), FORM);
        }
        due("as it is", new Rig().block(right), 1);
        due("a byte more", new Rig().block(Arrays.copyOf(right, right.length + 1)), FORM);
        due("one payment more", new Rig().block(Model.join(right, payments(3)[2])), FORM);
        due("one payment said more", new Rig().block(Rig.raw(3, payments(2))), FORM);
        due("one payment said less", new Rig().block(Rig.raw(1, payments(2))), FORM);
    }

    private static void roots() {
        Rig.says("the HASHES of each two neighbours (64 bytes; the last one with itself if it has none)");
        for (int n = 1; n <= 32; n++) {
            due("of " + n, new Rig().block(Rig.raw(n, payments(n))), 1);
        }
    }

    private static byte[] pair(byte[] a, byte[] b) {
        return Model.hash(Model.join(a, b));
    }

    private static int withRoot(int n, byte[] root) {
        byte[] block = Rig.raw(n, payments(n));
        System.arraycopy(root, 0, block, 32, 32);
        return new Rig().block(Rig.mine(block));
    }

    private static void otherRoots() {
        Rig.says("the HASHES of each two neighbours (64 bytes; the last one with itself if it has none)");
        List<byte[]> ids = new ArrayList<>();
        for (byte[] payment : payments(3)) {
            ids.add(Model.hash(payment));
        }
        byte[] a = ids.get(0);
        byte[] b = ids.get(1);
        byte[] c = ids.get(2);
        due("one, as it is", withRoot(1, a), 1);
        due("one, with itself", withRoot(1, pair(a, a)), FORM);
        due("two", withRoot(2, pair(a, b)), 1);
        due("two, turned round", withRoot(2, pair(b, a)), FORM);
        due("three, the last with itself", withRoot(3, pair(pair(a, b), pair(c, c))), 1);
        due("three, the last alone", withRoot(3, pair(pair(a, b), c)), FORM);
        due("three, the last with nothing", withRoot(3, pair(pair(a, b), Model.hash(c))), FORM);
        due("three, the last with zeros", withRoot(3, pair(pair(a, b), pair(c, new byte[32]))), FORM);
        byte[] lastBit = pair(a, b);
        lastBit[31] ^= 1;
        due("two, another last bit", withRoot(2, lastBit), FORM);
        byte[] firstBit = pair(a, b);
        firstBit[0] ^= -128;
        due("two, another first bit", withRoot(2, firstBit), FORM);
    }

    private static void targets() {
        Rig.says("WELL FORMED: this, TARGET 1 to 65535");
        for (int target : new int[] {0, 1, 2, 65534, 65535, 65536, 65537, 0x01008000}) {
            // It is well formed if it is known that another target is due.
            due("target " + target, new Rig().block(Rig.mined(Rig.ZEROS, 10, target, plain())),
                    target >= 1 && target <= 65535 ? RULE : FORM);
        }
    }

    private static void sameIds() {
        Rig.says("no two TRANSACTIONS with the same ID");
        byte[] a = payments(3)[0];
        byte[] b = payments(3)[1];
        byte[] c = payments(3)[2];
        due("three others", new Rig().block(Rig.raw(3, a, b, c)), 1);
        due("first and second", new Rig().block(Rig.raw(3, a, a, c)), FORM);
        due("first and last", new Rig().block(Rig.raw(3, a, b, a)), FORM);
        due("the last two", new Rig().block(Rig.raw(3, a, b, b)), FORM);
        byte[] almost = b.clone();
        almost[9] ^= 1;
        due("but for a bit", new Rig().block(Rig.raw(3, a, b, almost)), 1);
        byte[][] many = payments(32);
        many[31] = many[30];
        due("the last two of 32", new Rig().block(Rig.raw(32, many)), FORM);
    }

    /** What comes of a block with this target whose id begins with these two bytes. */
    private static int beginning(int leading, int target) {
        byte[] block = Model.blockBytes(new Model.Node(), 10, target, 0, List.of(plain()));
        while (Model.leading(block) != leading) {
            Model.setNonce(block, Model.nonce(block) + 1);
        }
        due("target", ByteBuffer.wrap(block).getInt(68), target);
        return new Rig().block(block);
    }

    private static void belowTarget() {
        Rig.says("the first two bytes of the ID, as 0 to 65535, below TARGET");
        due("0 below 1", beginning(0, 1), RULE);
        due("1 below 1", beginning(1, 1), FORM);
        due("32767 below 32768", beginning(32767, 32768), 1);
        due("32768 below 32768", beginning(32768, 32768), FORM);
        due("65534 below 65535", beginning(65534, 65535), RULE);
        due("65535 below 65535", beginning(65535, 65535), FORM);
        due("256 below 257", beginning(256, 257), RULE);
        due("257 below 257", beginning(257, 257), FORM);
    }
}

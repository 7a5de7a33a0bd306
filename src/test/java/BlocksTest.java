import java.nio.ByteBuffer;
import java.util.ArrayList;
import java.util.Arrays;
import java.util.List;

/** Promise 5 and the terms behind it: form, rules, room, held blocks, sound blocks and the tip. */
public final class BlocksTest {
    private static final int FORM = -3, KNOWN = -4, FULL = -5, RULE = -6;
    private static final byte[] OPEN = {102};
    private static final byte[] NO_LOCK = {};

    public static void main(String[] args) {
        form();
        formOfPayments();
        roots();
        known();
        medians();
        targets();
        held();
        heldAreGone();
        heldFull();
        arrivals();
        mostWork();
        soundFirst();
        soundOthers();
        soundScripts();
        ripe();
        rewards();
        late();
        Rig.finish("BlocksTest");
    }

    private static void due(String what, long got, long want) {
        Rig.due(what, got, want);
    }

    private static Model.Tx plain(int height) {
        return Rig.first(height, 5, NO_LOCK);
    }

    private static void form() {
        byte[] right = Rig.mined(Rig.ZEROS, 10, 32768, plain(1));
        due("empty", new Rig().block(new byte[0]), FORM);
        for (int n = 1; n < right.length; n++) {
            due("first " + n, new Rig().block(Arrays.copyOf(right, n)), FORM);
        }
        due("a byte more", new Rig().block(Arrays.copyOf(right, right.length + 1)), FORM);
        due("right", new Rig().block(right), 1);
        due("header alone", new Rig().block(Rig.raw(0, plain(1).bytes)), FORM);
        for (int time : new int[] {-1, Integer.MIN_VALUE}) {
            due("time " + time, new Rig().block(Rig.mined(Rig.ZEROS, time, 32768, plain(1))), FORM);
        }
        for (int target : new int[] {0, -1, 65536, Integer.MIN_VALUE, 0x01008000}) {
            due("target " + target, new Rig().block(Rig.mined(Rig.ZEROS, 10, target, plain(1))), FORM);
        }
        due("target 65535", new Rig().block(Rig.mined(Rig.ZEROS, 10, 65535, plain(1))), RULE);
        byte[] heavy = Rig.mined(Rig.ZEROS, 10, 1, plain(1));
        due("target 1", new Rig().block(heavy), RULE);
        byte[] weak = right.clone();
        while (Model.leading(weak) < 32768) {
            Model.setNonce(weak, Model.nonce(weak) + 1);
        }
        due("too little work", new Rig().block(weak), FORM);
        byte[] negative = right.clone();
        Model.setNonce(negative, -100);
        due("any nonce", new Rig().block(Rig.mine(negative)), 1);
        onTheTarget();
        byte[] otherRoot = right.clone();
        otherRoot[63] ^= 1;
        due("other root", new Rig().block(Rig.mine(otherRoot)), FORM);
        byte[] otherPayment = right.clone();
        otherPayment[86] ^= 1;
        due("other payment", new Rig().block(otherPayment), FORM);
    }

    /** An id whose first two bytes are the target is not below it; with one more they are. */
    private static void onTheTarget() {
        byte[] at = Model.blockBytes(new Model.Node(), 10, 300, 0, List.of(plain(1)));
        while (Model.leading(at) != 300) {
            Model.setNonce(at, Model.nonce(at) + 1);
        }
        due("id at the target", new Rig().block(at), FORM);
        byte[] below = Model.blockBytes(new Model.Node(), 10, 301, 0, List.of(plain(1)));
        while (Model.leading(below) != 300) {
            Model.setNonce(below, Model.nonce(below) + 1);
        }
        due("id just below the target", new Rig().block(below), RULE);
    }

    private static int leadingTarget(byte[] block) {
        return ByteBuffer.wrap(block).getInt(68);
    }

    private static void formOfPayments() {
        byte[] first = plain(1).bytes;
        Model.Tx second = Rig.payment(1, NO_LOCK, "ab".repeat(32) + "07");
        due("two", new Rig().block(Rig.raw(2, first, second.bytes)), 1);
        due("count above", new Rig().block(Rig.raw(3, first, second.bytes)), FORM);
        due("count below", new Rig().block(Rig.raw(1, first, second.bytes)), FORM);
        due("same twice", new Rig().block(Rig.raw(2, first, first)), FORM);
        due("same as an earlier one", new Rig().block(Rig.raw(3, first, second.bytes, first)), FORM);
        // Places: lock, inputs, index, size of the key script, outputs, value, size of the lock script.
        int[][] wrong = {{0, 128}, {4, 9}, {4, 255}, {37, 8}, {37, 255}, {38, 81}, {38, 255}, {39, 0}, {39, 9},
            {39, 255}, {40, 128}, {44, 81}, {44, 255}};
        for (int[] change : wrong) {
            byte[] bytes = Arrays.copyOf(second.bytes, second.bytes.length + 900);
            bytes[change[0]] = (byte) change[1];
            // As many bytes as a reader without this limit would take.
            for (int size = 40; size <= bytes.length; size++) {
                if (size == 45 || size == 126 || size % 97 == 0) {
                    due("byte " + change[0] + " is " + change[1],
                            new Rig().block(Rig.raw(2, first, Arrays.copyOf(bytes, size))), FORM);
                }
            }
        }
        byte[] inputs = {0, 0, 0, 0, -1, 1, 0, 0, 0, 0, 0};
        due("inputs 255", new Rig().block(Rig.raw(2, first, inputs)), FORM);
        byte[][] many = new byte[33][];
        for (int i = 0; i < 33; i++) {
            many[i] = Rig.first(i, i, NO_LOCK).bytes;
        }
        due("of 33", new Rig().block(Rig.raw(33, many)), FORM);
        due("of 32", new Rig().block(Rig.raw(32, Arrays.copyOf(many, 32))), 1);
        largest();
        cutAtTheBrim();
    }

    /** Tapes of 4096 bytes that break off in every part of a payment. */
    private static void cutAtTheBrim() {
        byte[][] locks = new byte[8][80];
        byte[] header = Rig.mined(Rig.ZEROS, 10, 32768, plain(1));
        for (int shift = 0; shift <= 240; shift++) {
            byte[] all = Arrays.copyOf(header, 77);
            all[76] = 32;
            byte[] moved = Rig.first(1, 1, new byte[Math.min(80, shift)], new byte[Math.max(0, Math.min(80, shift - 80))],
                    new byte[Math.max(0, shift - 160)]).bytes;
            all = Model.join(all, moved, Rig.first(2, 1, locks).bytes, Rig.first(3, 1, locks).bytes);
            while (all.length < 4096) {
                String[] coins = {"ab".repeat(32) + "01", "ab".repeat(32) + "02"};
                all = Model.join(all, Rig.payment(1, new byte[9], coins).bytes);
            }
            due("cut, moved by " + shift, new Rig().block(Arrays.copyOf(all, 4096)), FORM);
        }
    }

    private static void largest() {
        byte[] full = new byte[80];
        byte[][] locks = new byte[8][];
        Arrays.fill(locks, full);
        Rig rig = new Rig();
        due("eight outputs of 80", rig.block(Rig.mined(Rig.ZEROS, 10, 32768, Rig.first(1, 1, locks))), 1);
        due("coins", rig.x.count(2), 8);
        String[] coins = new String[8];
        Arrays.fill(coins, "cd".repeat(32) + "07");
        Model.Tx wide = Rig.keyed(Rig.payment(2147483647, full, coins), full);
        due("eight inputs of 80", new Rig().block(Rig.raw(2, plain(1).bytes, wide.bytes)), 1);
        byte[] whole = whole();
        due("whole tape", whole.length, 4096);
        Rig other = new Rig();
        due("4096 bytes", other.block(whole), 1);
        due("its bytes", other.x.count(5), 4096);
    }

    /** A block of 4096 bytes: none of its payments but the first could stand, which is no matter of form. */
    private static byte[] whole() {
        byte[][] locks = new byte[8][80];
        byte[][] payments = new byte[7][];
        payments[0] = plain(1).bytes;
        int size = 77 + payments[0].length;
        for (int i = 1; i < 6; i++) {
            payments[i] = Rig.first(i, 1, locks).bytes;
            size += payments[i].length;
        }
        byte[][] rest = {new byte[80], new byte[80], new byte[80], new byte[80], new byte[80], new byte[80],
            new byte[0]};
        int missing = 4096 - size - Rig.first(9, 1, rest).bytes.length;
        rest[6] = new byte[missing];
        payments[6] = Rig.first(9, 1, rest).bytes;
        return Rig.raw(7, payments);
    }

    private static void roots() {
        for (int n = 1; n <= 32; n++) {
            byte[][] payments = new byte[n][];
            for (int i = 0; i < n; i++) {
                payments[i] = Rig.first(i + 1, i, NO_LOCK).bytes;
            }
            Rig rig = new Rig();
            due("of " + n, rig.block(Rig.raw(n, payments)), 1);
            due("has " + n, rig.x.stored(1, 4), n);
        }
    }

    private static void known() {
        Rig rig = new Rig();
        byte[] one = Rig.mined(Rig.ZEROS, 10, 32768, plain(1));
        byte[] two = Rig.mined(Rig.id(one), 20, 32768, plain(2));
        due("held", rig.block(two), 1000);
        due("known while held", rig.block(two), KNOWN);
        due("stored", rig.block(one), 1);
        due("known", rig.block(one), KNOWN);
        due("known since held", rig.block(two), KNOWN);
        byte[] broken = one.clone();
        broken[86] ^= 1;
        due("form comes before known", rig.block(broken), FORM);
        due("all", rig.x.count(0), 3);
    }

    /** Whether the time may follow the others, the latest last, on block 0. */
    private static int follow(int time, int... others) {
        Rig rig = new Rig();
        for (int other : others) {
            due("a block before", rig.grow(-1, other, 1, false) > 0 ? 1 : 0, 1);
        }
        return rig.grow(-1, time, 1, false);
    }

    private static void medians() {
        due("of 0", follow(0), RULE);
        due("of 0, above", follow(1), 1);
        due("of 0 10", follow(10, 10), RULE);
        due("of 0 10, above", follow(11, 10), 2);
        due("of 0 10 20", follow(10, 10, 20), RULE);
        due("of 0 10 20, above", follow(11, 10, 20), 3);
        due("of 0 10 20 30", follow(20, 10, 20, 30), RULE);
        due("of 0 10 20 30, above", follow(21, 10, 20, 30), 4);
        due("of seven", follow(30, 10, 20, 30, 40, 50, 60), RULE);
        due("of seven, above", follow(31, 10, 20, 30, 40, 50, 60), 7);
        due("of the latest seven", follow(40, 10, 20, 30, 40, 50, 60, 70), RULE);
        due("of the latest seven, above", follow(41, 10, 20, 30, 40, 50, 60, 70), 8);
        due("out of order: 0 10 50 60 100", follow(50, 10, 100, 50, 60), RULE);
        due("out of order: 0 10 50 60 100, above", follow(51, 10, 100, 50, 60), 5);
        due("seven and no more", follow(34, 10, 20, 30, 1000, 31, 32, 33, 34, 35, 36, 37), RULE);
        due("seven and no more, above", follow(35, 10, 20, 30, 1000, 31, 32, 33, 34, 35, 36, 37), 12);
        due("highest", follow(Integer.MAX_VALUE, 10), 2);
        Rig rig = new Rig();
        rig.x.draft(0, 5, 1, false);
        byte[] block = rig.out();
        ByteBuffer.wrap(block).putInt(68, 32767);
        due("another target", rig.block(Rig.mine(block)), RULE);
    }

    /** The target of height 8 if block 7 has this time. */
    private static int targetAfter(int time) {
        Rig rig = new Rig();
        for (int i = 1; i <= 6; i++) {
            rig.grow(-1, i, 1, false);
        }
        due("block 7", rig.grow(-1, time, 1, false), 7);
        due("target of 7", rig.x.stored(7, 3), 32768);
        rig.x.draft(-1, time + 1, 1, false);
        int target = leadingTarget(rig.out());
        due("block 8", rig.grow(-1, time + 1, 1, false), 8);
        due("its target", rig.x.stored(8, 3), target);
        rig.x.draft(-1, time + 2, 1, false);
        due("stays", leadingTarget(rig.out()), target);
        return target;
    }

    private static void targets() {
        due("as planned", targetAfter(80), 32768);
        due("at 79", targetAfter(79), 32768 * 79 / 80);
        due("at 20", targetAfter(20), 8192);
        due("at 19", targetAfter(19), 8192);
        due("at 21", targetAfter(21), 32768 * 21 / 80);
        due("at 7", targetAfter(7), 8192);
        due("at 159", targetAfter(159), 32768 * 159 / 80);
        due("at 160", targetAfter(160), 65535);
        due("at 2000000000", targetAfter(2000000000), 65535);
        // Down to the lowest: 8192, then 2048, where it stays.
        Rig fast = new Rig();
        int[] lows = {32768, 8192, 2048, 2048};
        for (int i = 1; i <= 25; i++) {
            due("fast " + i, fast.grow(-1, i, 1, false), i);
            due("fast target " + i, fast.x.stored(i, 3), lows[i / 8]);
        }
        due("work", fast.x.tip(2), 7 * 512 + 8 * 2048 + 10 * 8192);
        // The span is that from the block 8 below to the parent, and 320 at most: t * 320 / 80.
        Rig slow = new Rig();
        for (int i = 1; i <= 7; i++) {
            slow.grow(-1, i * 3, 1, false);
        }
        for (int i = 8; i <= 15; i++) {
            slow.grow(-1, 1000 * i, 1, false);
        }
        due("to 8", slow.x.stored(8, 3), 32768 * 21 / 80);
        slow.grow(-1, 99999, 1, false);
        due("to 16", slow.x.stored(16, 3), 32768 * 21 / 80 * 4);
        int[] times = {3, 6, 9, 12, 15, 18, 80, 100, 150, 155, 160, 165, 170, 175, 200};
        Rig uneven = new Rig();
        for (int time : times) {
            uneven.grow(-1, time, 1, false);
        }
        uneven.x.draft(-1, 300, 1, false);
        due("from 100 to 200", leadingTarget(uneven.out()), 32768 * 100 / 80);
        spanBelowZero();
    }

    /** The parent may be older than the block 8 heights below. */
    private static void spanBelowZero() {
        Rig rig = new Rig();
        int[] times = {1, 2, 3, 4, 5, 6, 7, 900, 8, 9, 10, 11, 12, 13, 14};
        for (int i = 0; i < times.length; i++) {
            due("below zero " + i, rig.grow(-1, times[i], 1, false), i + 1);
        }
        rig.grow(-1, 15, 1, false);
        due("span below zero", rig.x.stored(16, 3), 2048);
    }

    private static void held() {
        byte[] one = Rig.mined(Rig.ZEROS, 10, 32768, plain(1));
        byte[] two = Rig.mined(Rig.id(one), 20, 32768, plain(2));
        byte[] other = Rig.mined(Rig.id(one), 21, 32768, plain(2));
        byte[] three = Rig.mined(Rig.id(two), 30, 32768, plain(3));
        Rig rig = new Rig();
        due("three", rig.block(three), 1000);
        due("other", rig.block(other), 1000);
        due("two", rig.block(two), 1000);
        due("held", rig.x.count(1), 3);
        due("one", rig.block(one), 1);
        due("none held", rig.x.count(1), 0);
        // The first held whose parent is there: other, two; then three, which waited for two.
        int[] times = {0, 10, 21, 20, 30};
        for (int n = 0; n < 5; n++) {
            due("number " + n, rig.x.stored(n, 2), times[n]);
        }
        due("tip", rig.x.tip(1), 4);
        Rig mixed = new Rig();
        mixed.block(three);
        mixed.block(two);
        mixed.block(other);
        due("one again", mixed.block(one), 1);
        // Three comes before other, as it was held first and its parent is there by then.
        int[] again = {0, 10, 20, 30, 21};
        for (int n = 0; n < 5; n++) {
            due("number again " + n, mixed.x.stored(n, 2), again[n]);
        }
    }

    private static void heldAreGone() {
        byte[] one = Rig.mined(Rig.ZEROS, 10, 32768, plain(1));
        byte[] early = Rig.mined(Rig.id(one), 10, 32768, plain(2));
        byte[] child = Rig.mined(Rig.id(early), 30, 32768, plain(3));
        Rig rig = new Rig();
        due("early", rig.block(early), 1000);
        due("child", rig.block(child), 1000);
        due("one", rig.block(one), 1);
        due("early is gone, its child waits", rig.x.count(1), 1);
        due("stored", rig.x.count(0), 2);
        due("early again", rig.block(early), RULE);
        due("child again", rig.block(child), KNOWN);
    }

    private static void heldFull() {
        Rig rig = new Rig();
        byte[] one = Rig.mined(Rig.ZEROS, 10, 32768, plain(1));
        byte[] parent = Rig.mined(Rig.id(one), 20, 32768, plain(2));
        List<byte[]> blocks = new ArrayList<>();
        for (int i = 0; i < 17; i++) {
            blocks.add(Rig.mined(Rig.id(parent), 30 + i, 32768, plain(3)));
            due("held " + i, rig.block(blocks.get(i)), i < 16 ? 1000 : FULL);
        }
        due("sixteen", rig.x.count(1), 16);
        due("known before full", rig.block(blocks.get(3)), KNOWN);
        due("stored all the same", rig.block(one), 1);
        due("still", rig.x.count(1), 16);
        due("parent", rig.block(parent), 2);
        due("all stored", rig.x.count(0), 19);
        due("none", rig.x.count(1), 0);
        due("the last", rig.block(blocks.get(16)), 19);
        due("tip is the first held", rig.x.tip(1), 3);
    }

    private static void arrivals() {
        byte[] one = Rig.mined(Rig.ZEROS, 10, 32768, plain(1));
        byte[] two = Rig.mined(Rig.id(one), 20, 32768, plain(2));
        byte[] rival = Rig.mined(Rig.ZEROS, 11, 32768, plain(1));
        byte[] rivalsChild = Rig.mined(Rig.id(rival), 21, 32768, plain(2));
        Rig rig = new Rig();
        due("child is held", rig.block(rivalsChild), 1000);
        due("one", rig.block(one), 1);
        due("two", rig.block(two), 2);
        due("tip", rig.x.tip(1), 2);
        due("rival", rig.block(rival), 3);
        // As much work as two, but it came before it.
        due("child", rig.x.tip(1), 4);
        due("left", rig.x.stored(2, 5), 0);
        Rig other = new Rig();
        other.block(one);
        other.block(two);
        other.block(rivalsChild);
        due("rival later", other.block(rival), 3);
        due("two came first", other.x.tip(1), 2);
    }

    /** The most work, not the most blocks. */
    private static void mostWork() {
        Rig rig = new Rig();
        for (int i = 1; i <= 6; i++) {
            rig.grow(-1, i, 1, false);
        }
        rig.grow(-1, 7, 1, false);
        rig.grow(7, 8, 1, false);
        due("hard", rig.x.stored(8, 3), 8192);
        int parent = 6;
        for (int i = 0; i < 12; i++) {
            int number = rig.grow(parent, 5000 + 1000 * i, 2, false);
            due("easy " + i, number, 9 + i);
            parent = number;
            // 256 for each of them against 2048 for block 8; level with it at i = 8, but later.
            due("tip " + i, rig.x.tip(1), i * 256 > 2048 ? number : 8);
        }
        due("at last", rig.x.tip(0), 18);
    }

    private static void soundFirst() {
        byte[] wrongLock = Rig.mined(Rig.ZEROS, 10, 32768, plain(2));
        byte[] zeroLock = Rig.mined(Rig.ZEROS, 10, 32768, plain(0));
        Model.Tx input = Rig.keyed(Rig.payment(0, NO_LOCK, Rig.ZEROS + "00"), OPEN);
        input.lock = 1;
        input.bytes = input.write();
        byte[] withInput = Rig.mined(Rig.ZEROS, 10, 32768, input);
        Model.Tx bare = Rig.first(0, 0, NO_LOCK);
        byte[] without = Rig.mined(Rig.ZEROS, 10, 32768, plain(1), bare);
        for (byte[] block : List.of(wrongLock, zeroLock, withInput, without)) {
            Rig rig = new Rig();
            due("stored", rig.block(block), 1);
            due("not followed", rig.x.tip(1), 0);
            due("no coins", rig.x.count(2), 0);
            // Its child is stored, too, and no better.
            due("child", rig.grow(1, 20, 1, false), 2);
            due("nor its child", rig.x.tip(1), 0);
            due("next", rig.grow(-1, 20, 1, false), 3);
            due("tip", rig.x.tip(1), 3);
        }
    }

    private static void soundOthers() {
        Model.Tx first = Rig.first(1, 50, NO_LOCK, NO_LOCK, NO_LOCK, NO_LOCK, Model.keyLock(3), Model.bytes(1, 8, 96));
        Model.Tx a = Rig.keyed(Rig.payment(40, NO_LOCK, Rig.coin(first, 0)), OPEN);
        Model.Tx b = Rig.keyed(Rig.payment(39, NO_LOCK, Rig.coin(a, 0)), OPEN);
        due("one", Rig.stand(first, 1000010, a) ? 1 : 0, 1);
        due("a more", Rig.stand(first, 1000011, a) ? 1 : 0, 0);
        due("on it", Rig.stand(first, 1000011, a, b) ? 1 : 0, 1);
        due("before it", Rig.stand(first, 5, b, a) ? 1 : 0, 0);
        Model.Tx twice = Rig.keyed(Rig.payment(38, NO_LOCK, Rig.coin(first, 0)), OPEN);
        due("spent twice", Rig.stand(first, 5, a, twice) ? 1 : 0, 0);
        Model.Tx same = Rig.keyed(Rig.payment(1, NO_LOCK, Rig.coin(first, 0), Rig.coin(first, 0)), OPEN);
        due("named twice", Rig.stand(first, 5, same) ? 1 : 0, 0);
        Model.Tx none = Rig.keyed(Rig.payment(1, NO_LOCK, Rig.coin(first, 6)), OPEN);
        due("no such coin", Rig.stand(first, 5, none) ? 1 : 0, 0);
        Model.Tx more = Rig.keyed(Rig.payment(101, NO_LOCK, Rig.coin(first, 0), Rig.coin(first, 1)), OPEN);
        due("more out than in", Rig.stand(first, 5, more) ? 1 : 0, 0);
        Model.Tx all = Rig.keyed(Rig.payment(100, NO_LOCK, Rig.coin(first, 0), Rig.coin(first, 1)), OPEN);
        due("as much out as in", Rig.stand(first, 1000000, all) ? 1 : 0, 1);
        for (int lock = 0; lock <= 9; lock++) {
            Model.Tx locked = Rig.payment(40, NO_LOCK, Rig.coin(first, 0));
            locked.lock = lock;
            due("lock " + lock, Rig.stand(first, 5, Rig.keyed(locked, OPEN)) ? 1 : 0, lock <= 8 ? 1 : 0);
        }
        due("fault behind", Rig.stand(first, 5, a, none) ? 1 : 0, 0);
        // A block may have longer payments than the pool.
        Model.Tx wide = Rig.payment(10, new byte[80], Rig.coin(first, 0), Rig.coin(first, 1), Rig.coin(first, 2),
                Rig.coin(first, 3));
        for (int i = 0; i < 7; i++) {
            wide.outs.add(Rig.output(1, new byte[80]));
        }
        Rig.keyed(wide, Model.join(Model.bytes(75), new byte[75], OPEN));
        due("wide", wide.bytes.length > 1000 ? 1 : 0, 1);
        due("wide one", Rig.stand(first, 5, wide) ? 1 : 0, 1);
    }

    private static void soundScripts() {
        Model.Tx first = Rig.first(1, 50, Model.keyLock(3), Model.bytes(1, 8, 96, 102), Model.bytes(1, 9, 96, 102));
        due("signed", Rig.stand(first, 5, Rig.signed(Rig.payment(1, NO_LOCK, Rig.coin(first, 0)), 3)) ? 1 : 0, 1);
        due("by another", Rig.stand(first, 5, Rig.signed(Rig.payment(1, NO_LOCK, Rig.coin(first, 0)), 4)) ? 1 : 0, 0);
        due("by none", Rig.stand(first, 5, Rig.payment(1, NO_LOCK, Rig.coin(first, 0))) ? 1 : 0, 0);
        Model.Tx changed = Rig.signed(Rig.payment(1, NO_LOCK, Rig.coin(first, 0)), 3);
        changed.outs.set(0, Rig.output(2, NO_LOCK));
        changed.bytes = changed.write();
        due("changed since", Rig.stand(first, 5, changed) ? 1 : 0, 0);
        due("from 8 on", Rig.stand(first, 5, Rig.payment(1, NO_LOCK, Rig.coin(first, 1))) ? 1 : 0, 1);
        due("from 9 on", Rig.stand(first, 5, Rig.payment(1, NO_LOCK, Rig.coin(first, 2))) ? 1 : 0, 0);
        Model.Tx both = Rig.payment(1, NO_LOCK, Rig.coin(first, 1), Rig.coin(first, 2));
        due("one of two", Rig.stand(first, 5, both) ? 1 : 0, 0);
    }

    /** Coins of a first payment of height g may go from g + 6 on; others at once. */
    private static void ripe() {
        for (int wait = 0; wait <= 7; wait++) {
            Rig rig = new Rig();
            Model.Tx first = Rig.first(1, 50, NO_LOCK);
            byte[] one = Rig.mined(Rig.ZEROS, 10, 32768, first);
            if (wait > 0) {
                due("one", rig.block(one), 1);
            }
            rig.growTip(Math.max(0, wait - 1));
            rig.x.draft(-1, 10 * wait + 10, 1, false);
            byte[] draft = rig.out();
            Model.Tx spends = Rig.keyed(Rig.payment(50, NO_LOCK, Rig.coin(first, 0)), OPEN);
            Model.Tx reward = wait == 0 ? first : plain(wait + 1);
            due("pay after " + wait, rig.pay(spends.bytes), wait >= 6 ? 0 : RULE);
            byte[] block = Rig.mined(Model.hex(Arrays.copyOf(draft, 32)), 10 * wait + 10, leadingTarget(draft),
                    reward, spends);
            due("block after " + wait, rig.block(block), wait + 1);
            due("ripe after " + wait, rig.x.tip(1), wait >= 6 ? wait + 1 : wait);
        }
    }

    /** Around each height where the reward is halved; the heights between are grown over. */
    private static void rewards() {
        Rig rig = new Rig();
        long sum = 0;
        for (int h = 1; h <= 33; h++) {
            int reward = 1000000 >> h / 16;
            sum += reward;
            if ((h + 1) % 16 > 2) {
                rig.growTip(1);
                continue;
            }
            int next = (int) rig.x.count(0);
            Model.Tx split = Rig.first(h, reward - 1, NO_LOCK);
            split.outs.add(Rig.output(2, NO_LOCK));
            split.bytes = split.write();
            due("more", rig.block(rig.on(-1, h * 10, split)), next);
            due("not followed", rig.x.tip(0), h - 1);
            split.outs.set(1, Rig.output(1, NO_LOCK));
            split.bytes = split.write();
            due("just that", rig.block(rig.on(-1, h * 10, split)), next + 1);
            due("followed", rig.x.tip(0), h);
            due("sum", rig.x.count(3), sum);
        }
    }

    /** A branch that is found wrong only when it would be followed, and what stands then. */
    private static void late() {
        Model.Tx first = Rig.first(1, 50, NO_LOCK, NO_LOCK);
        Rig rig = new Rig();
        rig.block(Rig.mined(Rig.ZEROS, 10, 32768, first));
        rig.growTip(6);
        Model.Tx a = Rig.keyed(Rig.payment(40, NO_LOCK, Rig.coin(first, 0)), OPEN);
        due("a", rig.pay(a.bytes), 10);
        due("eight", rig.grow(-1, 90, 1, true), 8);
        due("nine", rig.grow(-1, 100, 1, true), 9);
        Model.Tx b = Rig.keyed(Rig.payment(41, NO_LOCK, Rig.coin(first, 1)), OPEN);
        due("b", rig.pay(b.bytes), 9);
        long coins = rig.x.count(2);
        long sum = rig.x.count(3);
        rig.x.draft(7, 91, 2, false);
        byte[] draft = rig.out();
        Model.Tx wrong = Rig.keyed(Rig.payment(51, NO_LOCK, Rig.coin(first, 0)), OPEN);
        due("ten", rig.grow(7, 91, 2, false), 10);
        byte[] ten = rig.out();
        byte[] eleven = Rig.mined(Rig.id(ten), 101, leadingTarget(draft), plain(9), wrong);
        due("eleven", rig.block(eleven), 11);
        due("twelve", rig.grow(11, 111, 2, false), 12);
        due("thirteen", rig.grow(12, 121, 2, false), 13);
        due("none of them", rig.x.tip(1), 9);
        due("coins", rig.x.count(2), coins);
        due("sum", rig.x.count(3), sum);
        due("pool", rig.x.count(4), 1);
        due("ten is not followed", rig.x.stored(10, 5), 0);
        // But a right one from ten on may be.
        due("fourteen", rig.grow(10, 102, 2, false), 14);
        due("level", rig.x.tip(1), 9);
        due("fifteen", rig.grow(14, 112, 2, false), 15);
        due("followed", rig.x.tip(1), 15);
        due("a is back, before b", rig.x.pooled(0, 0), 10);
        due("b", rig.x.pooled(1, 0), 9);
        due("and back again", rig.grow(9, 113, 1, false), 16);
        due("level again", rig.x.tip(1), 15);
        due("seventeen", rig.grow(16, 123, 1, false), 17);
        due("followed again", rig.x.tip(1), 17);
        due("a is in block 8", rig.x.count(4), 1);
        due("b waits", rig.x.pooled(0, 0), 9);
        due("value", rig.x.count(3), sum + 2000000);
    }
}

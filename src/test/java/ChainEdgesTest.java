import java.util.ArrayList;
import java.util.Arrays;
import java.util.List;

/**
 * The terms of the document that say how blocks follow one another, sentence by sentence: the last case
 * that is within, and the first that is not.
 */
public final class ChainEdgesTest {
    private static final int KNOWN = -4, FULL = -5, RULE = -6, HELD = 1000;
    private static final byte[] NO_LOCK = {};
    private static final byte[] OPEN = {102};

    public static void main(String[] args) {
        work();
        heights();
        medians();
        mediansOutOfOrder();
        eighthHeights();
        otherTargets();
        spans();
        targetLimits();
        heldAtMost();
        storedAtMost();
        storedBytesAtMost();
        heldOneByOne();
        heldFirstFirst();
        heldAgainstTheRules();
        heldWithoutRoom();
        arrivals();
        soundParents();
        firstPayments();
        otherPayments();
        differentCoins();
        coinsThatAreThere();
        ripeCoins();
        scriptsInBlocks();
        values();
        coinsGoAndCome();
        rewardAndFees();
        rewards();
        mostWork();
        Rig.finish("ChainEdgesTest");
    }

    private static void due(String what, long got, long want) {
        Rig.due(what, got, want);
    }

    private static Model.Tx plain(int height) {
        return Rig.first(height, 5, NO_LOCK);
    }

    /** Blocks on block 0 of these times. */
    private static Rig chain(int... times) {
        Rig rig = new Rig();
        for (int i = 0; i < times.length; i++) {
            due("block of time " + times[i], rig.grow(-1, times[i], 1, false), i + 1);
        }
        return rig;
    }

    /** Blocks up to a height that 8 follows, with these spans from each height that 8 divides to the seventh on it. */
    private static Rig spanning(int... spans) {
        int[] times = new int[8 * spans.length];
        int begin = 0;
        for (int p = 0; p < spans.length; p++) {
            for (int i = 0; i < 7; i++) {
                times[8 * p + i] = begin + i;
            }
            times[8 * p + 7] = begin + spans[p];
            begin += spans[p] + 1;
        }
        return chain(Arrays.copyOfRange(times, 1, times.length));
    }

    private static int dueTarget(Rig rig) {
        rig.x.draft(-1, 1000000, 1, false);
        return rig.outNumber(68);
    }

    private static void work() {
        Rig.says("WORK: 16777216 / TARGET, rounded down; of a chain: the sum from its beginning.");
        due("none", new Rig().x.tip(2), 0);
        due("one of 32768", chain(1).x.tip(2), 512);
        int[][] cases = {{80, 32768, 512}, {79, 32358, 518}, {21, 8601, 1950}, {160, 65535, 256}, {20, 8192, 2048}};
        for (int[] c : cases) {
            Rig rig = spanning(c[0]);
            due("seven of 32768", rig.x.tip(2), 7 * 512);
            due("target", dueTarget(rig), c[1]);
            rig.grow(-1, c[0] + 1, 1, false);
            due("and one of " + c[1], rig.x.tip(2), 7 * 512 + c[2]);
            rig.grow(-1, c[0] + 2, 1, false);
            due("and two of " + c[1], rig.x.tip(2), 7 * 512 + 2 * c[2]);
        }
        // 24929 would divide 16777217, so it is all but 673.
        Rig rig = spanning(29, 101, 133);
        due("target of all but 673", dueTarget(rig), 24929);
        long before = rig.x.tip(2);
        rig.grow(-1, 1000, 1, false);
        due("all but 673", rig.x.tip(2) - before, 672);
    }

    private static void heights() {
        Rig.says("its HEIGHT is one more");
        Rig rig = chain(1, 2);
        due("on 0", rig.grow(0, 3, 1, false), 3);
        due("of height 1", rig.x.stored(3, 0), 1);
        due("on 2", rig.grow(2, 3, 1, false), 4);
        due("of height 3", rig.x.stored(4, 0), 3);
    }

    private static void medians() {
        Rig.says("its TIME is above the MEDIAN of the TIMES of its latest ancestors, 7 or as many as there are "
                + "(of n in order the one with n / 2 below it)");
        // Of the ancestors, block 0 too, that stand 10 apart; from the eighth on the first ones do not count.
        int[] medians = {0, 10, 10, 20, 20, 30, 30, 40, 50, 60};
        for (int n = 1; n <= medians.length; n++) {
            int[] times = new int[n - 1];
            for (int i = 0; i < times.length; i++) {
                times[i] = 10 * (i + 1);
            }
            Rig rig = chain(times);
            due("at the median of " + n, rig.grow(-1, medians[n - 1], 1, false), RULE);
            due("above the median of " + n, rig.grow(-1, medians[n - 1] + 1, 1, false), n);
        }
        due("highest time", chain(Integer.MAX_VALUE).x.tip(0), 1);
        Rig last = chain(1, Integer.MAX_VALUE - 1, Integer.MAX_VALUE);
        due("above 1 and one lower", last.grow(-1, Integer.MAX_VALUE - 1, 1, false), RULE);
        due("above 1 and one lower, highest", last.grow(-1, Integer.MAX_VALUE, 1, false), 4);
    }

    private static void mediansOutOfOrder() {
        Rig.says("its TIME is above the MEDIAN of the TIMES of its latest ancestors, 7 or as many as there are "
                + "(of n in order the one with n / 2 below it)");
        // 0 1 2 3 1000: a time below that of the parent.
        Rig rig = chain(1, 2, 3, 1000);
        due("at 2", rig.grow(-1, 2, 1, false), RULE);
        due("at 3", rig.grow(-1, 3, 1, false), 5);
        // 0 1 2 3 3 1000: 3 has three below it.
        due("at 3 once more", rig.grow(-1, 3, 1, false), RULE);
        due("at 4", rig.grow(-1, 4, 1, false), 6);
        // 0 1 2 3 3 4 1000.
        due("at 3 of seven", rig.grow(-1, 3, 1, false), RULE);
        due("at 4 of seven", rig.grow(-1, 4, 1, false), 7);
        // 1 2 3 3 4 4 1000, without block 0.
        due("again at 3 of seven", rig.grow(-1, 3, 1, false), RULE);
        due("again at 4 of seven", rig.grow(-1, 4, 1, false), 8);
        // 2 3 3 4 4 4 1000.
        due("last at 4 of seven", rig.grow(-1, 4, 1, false), RULE);
        due("last at 5 of seven", rig.grow(-1, 5, 1, false), 9);
        rig.grow(-1, 5, 1, false);
        rig.grow(-1, 5, 1, false);
        // 3 4 4 4 5 5 5, as 1000 is the time of the eighth.
        due("without the eighth, at 4", rig.grow(-1, 4, 1, false), RULE);
        due("without the eighth, at 5", rig.grow(-1, 5, 1, false), 12);
    }

    private static void eighthHeights() {
        Rig.says("its TARGET is that of its parent, but for each HEIGHT that 8 divides t * s / 80");
        Rig rig = spanning(40, 50, 60);
        int second = 32768 * 40 / 80;
        int third = second * 50 / 80;
        int fourth = third * 60 / 80;
        for (int n = 1; n <= 23; n++) {
            due("height " + n, rig.x.stored(n, 3), n < 8 ? 32768 : n < 16 ? second : third);
        }
        due("height 24", dueTarget(rig), fourth);
    }

    /** What comes of a block on the tip with another target than the due one. */
    private static int withTarget(Rig rig, int time, int target) {
        byte[] block = rig.on(-1, time, plain((int) rig.x.tip(0) + 1));
        java.nio.ByteBuffer.wrap(block).putInt(68, target);
        return rig.block(Rig.mine(block));
    }

    private static void otherTargets() {
        Rig.says("its TARGET is that of its parent, but for each HEIGHT that 8 divides t * s / 80");
        Rig first = new Rig();
        due("one less", withTarget(first, 10, 32767), RULE);
        due("one more", withTarget(first, 10, 32769), RULE);
        due("that of block 0", withTarget(first, 10, 32768), 1);
        Rig seventh = chain(1, 2, 3, 4, 5, 6);
        due("too early", withTarget(seventh, 40, 16384), RULE);
        due("height 7", withTarget(seventh, 40, 32768), 7);
        due("too late", withTarget(seventh, 41, 32768), RULE);
        due("one less at 8", withTarget(seventh, 41, 16383), RULE);
        due("one more at 8", withTarget(seventh, 41, 16385), RULE);
        due("height 8", withTarget(seventh, 41, 16384), 8);
        due("again at 9", withTarget(seventh, 42, 8192), RULE);
        due("height 9", withTarget(seventh, 42, 16384), 9);
    }

    private static void spans() {
        Rig.says("s the parent's TIME without that of the ancestor 8 HEIGHTS below the BLOCK, "
                + "of at least 20 and at most 320");
        due("of 7", dueTarget(spanning(7)), 8192);
        due("of 19", dueTarget(spanning(19)), 8192);
        due("of 20", dueTarget(spanning(20)), 8192);
        due("of 21", dueTarget(spanning(21)), 8601);
        due("of 319", dueTarget(spanning(20, 319)), 32665);
        due("of 320", dueTarget(spanning(20, 320)), 32768);
        due("of 321", dueTarget(spanning(20, 321)), 32768);
        due("of the highest", dueTarget(chain(1, 2, 3, 4, 5, 6, 20, 21, 22, 23, 24, 25, 26, 27, Integer.MAX_VALUE)),
                32768);
        // The ancestor has a later time than the parent.
        Rig below = chain(1, 2, 3, 4, 5, 6, 40, 900, 7, 8, 9, 10, 41, 42, 43);
        due("below 0", dueTarget(below), 16384 * 20 / 80);
        Rig far = chain(1, 2, 3, 4, 5, 6, 40, Integer.MAX_VALUE, 7, 8, 9, 10, 41, 42, 43);
        due("far below 0", dueTarget(far), 16384 * 20 / 80);
        // Neither that of height 7 nor that of height 9.
        due("from height 8 on", dueTarget(chain(1, 2, 3, 4, 5, 6, 40, 100, 130, 131, 132, 133, 134, 135, 180)),
                16384 * 80 / 80);
    }

    private static void targetLimits() {
        Rig.says("t * s / 80, of at least 2048 and at most 65535");
        due("1996", dueTarget(spanning(20, 40, 39)), 2048);
        due("2048", dueTarget(spanning(20, 40, 40)), 2048);
        due("2099", dueTarget(spanning(20, 40, 41)), 2099);
        due("512", dueTarget(spanning(20, 20, 20)), 2048);
        due("65126", dueTarget(spanning(159)), 65126);
        due("65536", dueTarget(spanning(160)), 65535);
        due("131072", dueTarget(spanning(320)), 65535);
        due("64715", dueTarget(spanning(160, 79)), 64715);
        due("65535", dueTarget(spanning(160, 80)), 65535);
        due("66354", dueTarget(spanning(160, 81)), 65535);
        due("262140", dueTarget(spanning(160, 320)), 65535);
    }

    private static void heldAtMost() {
        Rig.says("HELD those whose parent is not STORED, at most 16");
        Rig rig = new Rig();
        byte[] parent = Rig.mined(Rig.ZEROS, 10, 32768, plain(1));
        byte[][] blocks = new byte[17][];
        for (int i = 0; i < 17; i++) {
            blocks[i] = Rig.mined(Rig.id(parent), 30 + i, 32768, plain(2));
            due("held " + (i + 1), rig.block(blocks[i]), i < 16 ? HELD : FULL);
            due("how many", rig.x.count(1), Math.min(16, i + 1));
        }
        due("known comes first", rig.block(blocks[15]), KNOWN);
        due("what is not held is not known", rig.block(blocks[16]), FULL);
        due("a block on a stored one is stored", rig.block(parent), 1);
        due("all but one", rig.x.count(0), 18);
        due("none", rig.x.count(1), 0);
        due("the last", rig.block(blocks[16]), 18);
    }

    /** 256 stored, of two calls each: times for which the drafts are well formed as they are. */
    private static Rig full() {
        Rig rig = new Rig();
        Model.Node parent = new Model.Node();
        for (int i = 1; i <= 255; i++) {
            Model.Tx first = Model.firstTx(i, Model.reward(i), Model.keyLock(1));
            int time = parent.time + 40;
            Model.Node next = null;
            while (next == null) {
                time++;
                next = Model.readBlock(Model.blockBytes(parent, time, Model.due(parent), 0, List.of(first)));
            }
            next.parent = parent;
            next.height = i;
            rig.x.draft(-1, time, 1, true);
            due("stored " + i, rig.x.send(), i);
            parent = next;
        }
        return rig;
    }

    private static void storedAtMost() {
        Rig.says("STORED at most 256 (BLOCK 0 is one)");
        Rig rig = full();
        due("stored", rig.x.count(0), 256);
        due("the last one", rig.x.stored(255, 0), 255);
        due("none behind it", rig.x.stored(256, 0), -2);
        due("coins", rig.x.count(2), 255);
        due("draft", rig.x.draft(-1, 1000000, 1, false), 94);
        due("one more", rig.x.send(), FULL);
        Rig other = full();
        due("no block 256", other.x.draft(256, 1000000, 1, false), -1);
        due("block 255", other.x.draft(255, 1000000, 1, false), 94);
    }

    /**
     * So much room is left, of 150 bytes or as many more as 32 divides: 32 blocks that differ in their nonce
     * are brought back from OUT, which has five payments of the pool.
     */
    private static Rig nearlyFull(int left) {
        byte[][] locks = new byte[7][0];
        Model.Tx first = Rig.first(1, 50, locks);
        Rig rig = Rig.withCoins(first);
        int size = (131072 - (int) rig.x.count(5) - left) / 32;
        for (int i = 0; i < 4; i++) {
            due("payment of 797", rig.pay(Rig.longOne(first, i, 0, 77).bytes), 0);
        }
        due("payment that fills", rig.pay(Rig.longOne(first, 4, 0, size - 94 - 4 * 797 - 720).bytes), 0);
        due("size", rig.x.draft(-1, 100, 1, true), size);
        byte[] block = rig.out();
        int nonce = 0;
        for (int i = 0; i < 32; i++) {
            Model.setNonce(block, nonce);
            while (Model.leading(block) >= rig.outNumber(68)) {
                nonce++;
                Model.setNonce(block, nonce);
            }
            rig.x.back();
            rig.x.alter(75, nonce);
            due("large one " + i, rig.x.block(), 8 + i);
            nonce++;
        }
        due("left", 131072 - rig.x.count(5), left);
        return rig;
    }

    /** A block of so many bytes, 88 and more: its one payment has as long lock scripts as it takes. */
    private static byte[] ofSize(String parent, int height, int time, int size) {
        int missing = size - 88;
        List<byte[]> locks = new ArrayList<>();
        locks.add(new byte[Math.min(80, missing)]);
        missing -= locks.get(0).length;
        while (missing >= 5) {
            locks.add(new byte[Math.min(80, missing - 5)]);
            missing -= 5 + locks.get(locks.size() - 1).length;
        }
        byte[] block = Rig.mined(parent, time, 32768, Rig.first(height, 1, locks.toArray(new byte[0][])));
        due("size", block.length, size);
        return block;
    }

    private static void storedBytesAtMost() {
        Rig.says("STORED at most 256 (BLOCK 0 is one), with at most 131072 bytes");
        Rig rig = nearlyFull(150);
        due("rule comes first", rig.block(ofSize(Rig.ZEROS, 1, 0, 151)), RULE);
        due("a byte more", rig.block(ofSize(Rig.ZEROS, 1, 10, 151)), FULL);
        due("stay", rig.x.count(5), 131072 - 150);
        due("just that", rig.block(ofSize(Rig.ZEROS, 1, 10, 150)), 40);
        due("bytes", rig.x.count(5), 131072);
        due("nothing more", rig.block(ofSize(Rig.ZEROS, 1, 11, 88)), FULL);
        due("known comes first", rig.block(ofSize(Rig.ZEROS, 1, 10, 150)), KNOWN);
        due("but held", rig.block(ofSize("77".repeat(32), 1, 11, 88)), HELD);
    }

    private static void heldOneByOne() {
        Rig.says("When a BLOCK is STORED, HELD ones whose parent is STORED are taken out one by one");
        byte[][] blocks = new byte[18][];
        Model.Node parent = new Model.Node();
        for (int i = 1; i <= 17; i++) {
            int target = Model.due(parent);
            blocks[i] = Rig.mined(parent.id, 10 * i, target, plain(i));
            Model.Node next = Model.readBlock(blocks[i]);
            next.parent = parent;
            next.height = i;
            parent = next;
        }
        Rig rig = new Rig();
        for (int i = 17; i >= 2; i--) {
            due("held " + i, rig.block(blocks[i]), HELD);
        }
        due("sixteen", rig.x.count(1), 16);
        due("the first", rig.block(blocks[1]), 1);
        due("none", rig.x.count(1), 0);
        due("all", rig.x.count(0), 18);
        due("tip", rig.x.tip(0), 17);
        due("coins", rig.x.count(2), 17);
    }

    private static void heldFirstFirst() {
        Rig.says("taken out one by one (the first held first)");
        byte[] one = Rig.mined(Rig.ZEROS, 10, 32768, plain(1));
        byte[][] children = new byte[3][];
        for (int i = 0; i < 3; i++) {
            children[i] = Rig.mined(Rig.id(one), 20 + i, 32768, plain(2));
        }
        byte[] grandchild = Rig.mined(Rig.id(children[1]), 30, 32768, plain(3));
        Rig rig = new Rig();
        due("last child", rig.block(children[2]), HELD);
        due("grandchild", rig.block(grandchild), HELD);
        due("middle child", rig.block(children[1]), HELD);
        due("first child", rig.block(children[0]), HELD);
        due("one", rig.block(one), 1);
        // When the middle child is stored the grandchild comes before the first child, as it was held before it.
        int[] times = {0, 10, 22, 21, 30, 20};
        for (int n = 0; n < times.length; n++) {
            due("time of " + n, rig.x.stored(n, 2), times[n]);
        }
    }

    private static void heldAgainstTheRules() {
        Rig.says("STORED if they follow the RULES and there is room (else they are gone)");
        byte[] one = Rig.mined(Rig.ZEROS, 10, 32768, plain(1));
        byte[] atMedian = Rig.mined(Rig.id(one), 10, 32768, plain(2));
        byte[] above = Rig.mined(Rig.id(one), 11, 32768, plain(2));
        byte[] otherTarget = Rig.mined(Rig.id(one), 11, 32767, plain(2));
        byte[] child = Rig.mined(Rig.id(atMedian), 30, 32768, plain(3));
        Rig rig = new Rig();
        for (byte[] block : List.of(atMedian, otherTarget, above, child)) {
            due("held", rig.block(block), HELD);
        }
        due("one", rig.block(one), 1);
        due("one of three", rig.x.count(0), 3);
        due("above the median", rig.x.stored(2, 2), 11);
        due("its target", rig.x.stored(2, 3), 32768);
        due("the child of what is gone waits", rig.x.count(1), 1);
        due("gone, so not known", rig.block(atMedian), RULE);
        due("gone, too", rig.block(otherTarget), RULE);
    }

    private static void heldWithoutRoom() {
        Rig.says("STORED if they follow the RULES and there is room (else they are gone)");
        Rig rig = nearlyFull(470);
        byte[] parent = ofSize(Rig.ZEROS, 1, 10, 88);
        byte[] tooLarge = ofSize(Rig.id(parent), 2, 20, 383);
        byte[] just = ofSize(Rig.id(parent), 2, 20, 382);
        byte[] last = ofSize(Rig.id(parent), 2, 21, 88);
        for (byte[] block : List.of(tooLarge, just, last)) {
            due("held", rig.block(block), HELD);
        }
        due("parent", rig.block(parent), 40);
        due("none held", rig.x.count(1), 0);
        due("one of three", rig.x.count(0), 42);
        due("to the brim", rig.x.count(5), 131072);
        due("which one", rig.block(just), KNOWN);
        due("the last is gone", rig.block(last), FULL);
        due("and the large one", rig.block(tooLarge), FULL);
    }

    private static void arrivals() {
        Rig.says("ARRIVAL: the call in which a BLOCK came, for one that was HELD the one in which it was HELD.");
        byte[] one = Rig.mined(Rig.ZEROS, 10, 32768, plain(1));
        byte[] two = Rig.mined(Rig.id(one), 20, 32768, plain(2));
        byte[] rival = Rig.mined(Rig.ZEROS, 11, 32768, plain(1));
        byte[] child = Rig.mined(Rig.id(rival), 21, 32768, plain(2));
        Rig before = new Rig();
        before.block(one);
        before.block(child);
        due("two behind the child", before.block(two), 2);
        due("two is the tip", before.x.tip(1), 2);
        due("rival", before.block(rival), 3);
        due("the child was held before two came", before.x.tip(1), 4);
        Rig behind = new Rig();
        behind.block(one);
        behind.block(two);
        behind.block(child);
        due("rival again", behind.block(rival), 3);
        due("the child was held after two came", behind.x.tip(1), 2);
        // It is the arrival of the block itself that counts, not that of its parent.
        byte[] other = Rig.mined(Rig.id(rival), 22, 32768, plain(2));
        due("other", behind.block(other), 5);
        due("stays", behind.x.tip(1), 2);
    }

    private static void soundParents() {
        Rig.says("A STORED BLOCK is SOUND if its parent is");
        Rig rig = new Rig();
        due("unsound", rig.block(Rig.mined(Rig.ZEROS, 10, 32768, plain(2))), 1);
        due("its child", rig.grow(1, 20, 1, false), 2);
        due("its grandchild", rig.grow(2, 30, 1, false), 3);
        due("none of them", rig.x.tip(1), 0);
        due("no coins", rig.x.count(2), 0);
        due("one on block 0", rig.grow(0, 40, 1, false), 4);
        due("is followed with less work", rig.x.tip(1), 4);
    }

    private static Model.Tx fifties() {
        return Rig.first(1, 50, NO_LOCK, NO_LOCK, NO_LOCK, NO_LOCK);
    }

    private static Model.Tx pays(int value, String... coins) {
        return Rig.keyed(Rig.payment(value, NO_LOCK, coins), OPEN);
    }

    private static Model.Tx locked(Model.Tx tx, int lock) {
        tx.lock = lock;
        tx.bytes = tx.write();
        return tx;
    }

    private static void firstPayments() {
        Rig.says("the first TRANSACTION has no INPUTS and its HEIGHT h as LOCK");
        for (int lock : new int[] {0, 7, 8, 9, Integer.MAX_VALUE}) {
            Rig.holds("lock " + lock, Rig.standAlone(fifties(), plain(lock)) == (lock == 8));
        }
        Model.Tx withInput = locked(pays(5, Rig.coin(fifties(), 0)), 8);
        Rig.holds("with an input", !Rig.standAlone(fifties(), withInput));
    }

    private static void otherPayments() {
        Rig.says("all others have one or more and a LOCK of h at most");
        for (int lock : new int[] {0, 7, 8, 9, Integer.MAX_VALUE}) {
            Model.Tx other = locked(pays(5, Rig.coin(fifties(), 0)), lock);
            Rig.holds("lock " + lock, Rig.stand(fifties(), 5, other) == (lock <= 8));
        }
        Rig.holds("without inputs", !Rig.stand(fifties(), 5, Rig.first(7, 0, NO_LOCK)));
        Rig.holds("without inputs, behind another",
                !Rig.stand(fifties(), 5, pays(5, Rig.coin(fifties(), 0)), Rig.first(7, 0, NO_LOCK)));
    }

    private static void differentCoins() {
        Rig.says("each, in their order, has INPUTS that name different COINS that are there");
        String a = Rig.coin(fifties(), 0);
        String b = Rig.coin(fifties(), 1);
        Rig.holds("two", Rig.stand(fifties(), 5, pays(5, a, b)));
        Rig.holds("one twice", !Rig.stand(fifties(), 5, pays(5, a, a)));
        Rig.holds("the first and the last", !Rig.stand(fifties(), 5, pays(5, a, b, a)));
        Model.Tx otherKey = pays(5, a, a);
        otherKey.ins.get(1).key = Model.bytes(1, 1);
        otherKey.bytes = otherKey.write();
        Rig.holds("one twice, with other key scripts", !Rig.stand(fifties(), 5, otherKey));
        Rig.holds("in two payments", !Rig.stand(fifties(), 5, pays(5, a), pays(6, a)));
    }

    private static void coinsThatAreThere() {
        Rig.says("each, in their order, has INPUTS that name different COINS that are there");
        Model.Tx one = pays(40, Rig.coin(fifties(), 0));
        Model.Tx two = pays(30, Rig.coin(one, 0));
        Rig.holds("of the one before", Rig.stand(fifties(), 5, one, two));
        Rig.holds("of the one behind", !Rig.stand(fifties(), 5, two, one));
        Rig.holds("last index", Rig.stand(fifties(), 5, pays(5, Rig.coin(fifties(), 3))));
        Rig.holds("an index behind it", !Rig.stand(fifties(), 5, pays(5, Rig.coin(fifties(), 4))));
        Rig.holds("another id", !Rig.stand(fifties(), 5, pays(5, Rig.coin(plain(3), 0))));
        Rig.holds("the one of two that is not there",
                !Rig.stand(fifties(), 5, pays(5, Rig.coin(fifties(), 0), Rig.coin(fifties(), 4))));
    }

    /** What pay and a block of this height say of a coin of the first payment of block 1, or of that block itself. */
    private static void ripeAt(int height, boolean ripe) {
        Rig rig = new Rig();
        Model.Tx first = plain(1);
        if (height > 1) {
            rig.block(Rig.mined(Rig.ZEROS, 10, 32768, first));
            rig.growTip(height - 2);
        }
        Model.Tx spends = pays(5, Rig.coin(first, 0));
        due("pay for height " + height, rig.pay(spends.bytes), ripe ? 0 : RULE);
        byte[] block = rig.on(-1, 10 * height, height > 1 ? plain(height) : first, spends);
        due("block of height " + height, rig.block(block), height);
        due("tip at height " + height, rig.x.tip(0), ripe ? height : height - 1);
    }

    private static void ripeCoins() {
        Rig.says("those of a first TRANSACTION of HEIGHT g only from h = g + 6 on");
        for (int height = 1; height <= 9; height++) {
            ripeAt(height, height >= 7);
        }
        Rig.says("the OUTPUTS of the first TRANSACTION (they come first)");
        Model.Tx reward = plain(8);
        Rig.holds("its own block's reward", !Rig.standAlone(fifties(), reward, pays(5, Rig.coin(reward, 0))));
    }

    private static Model.Tx of(int... values) {
        Model.Tx tx = Rig.payment(values[0], NO_LOCK, Rig.coin(fifties(), 0), Rig.coin(fifties(), 1));
        for (int i = 1; i < values.length; i++) {
            tx.outs.add(Rig.output(values[i], NO_LOCK));
        }
        return Rig.keyed(tx, OPEN);
    }

    private static void values() {
        Rig.says("and no less VALUE than OUTPUTS (what is left is its FEE)");
        int most = Integer.MAX_VALUE;
        int[][] within = {{100}, {0}, {99, 1}, {50, 50, 0}};
        int[][] beyond = {{101}, {100, 1}, {50, 50, 1}, {most}, {most, most}, {most, most, 2}, {most, most, 102},
            {most, 1}, {most, most, most, most, most, most, most, most}};
        for (int[] values : within) {
            Rig.holds("100 for " + Arrays.toString(values), Rig.stand(fifties(), 5, of(values)));
            int sum = Arrays.stream(values).sum();
            due("fee of " + Arrays.toString(values), Rig.withCoins(fifties()).pay(of(values).bytes), 100 - sum);
        }
        for (int[] values : beyond) {
            Rig.holds("100 for " + Arrays.toString(values), !Rig.stand(fifties(), 5, of(values)));
            due("pay " + Arrays.toString(values), Rig.withCoins(fifties()).pay(of(values).bytes), RULE);
        }
    }

    private static Model.Tx rewarding(int... values) {
        Model.Tx tx = Rig.first(8, values[0], NO_LOCK);
        for (int i = 1; i < values.length; i++) {
            tx.outs.add(Rig.output(values[i], NO_LOCK));
        }
        tx.bytes = tx.write();
        return tx;
    }

    private static void scriptsInBlocks() {
        Rig.says("whose scripts succeed");
        for (int height = 6; height <= 10; height++) {
            Model.Tx from = Rig.first(1, 50, Model.bytes(1, height, 96, 102));
            Model.Tx spends = Rig.payment(50, NO_LOCK, Rig.coin(from, 0));
            Rig.holds("after " + height + " at height 8", Rig.stand(from, 5, spends) == (height <= 8));
        }
        Model.Tx two = Rig.payment(5, NO_LOCK, Rig.coin(fifties(), 0), Rig.coin(fifties(), 1));
        two.ins.get(0).key = OPEN;
        two.bytes = two.write();
        Rig.holds("only that of the first input", !Rig.stand(fifties(), 5, two));
        two.ins.get(1).key = OPEN;
        two.bytes = two.write();
        Rig.holds("those of both", Rig.stand(fifties(), 5, two));
        two.ins.get(0).key = NO_LOCK;
        two.bytes = two.write();
        Rig.holds("only that of the last input", !Rig.stand(fifties(), 5, two));
    }

    /** That an output is there already no run can reach: its payment would have to come twice, and so what it spends. */
    private static void coinsGoAndCome() {
        Rig.says("these COINS go, its OUTPUTS come, of which none is there");
        Rig rig = Rig.withCoins(fifties());
        Model.Tx a = of(60, 30);
        Model.Tx b = pays(60, Rig.coin(a, 0));
        due("coins", rig.x.count(2), 10);
        due("block", rig.block(rig.on(-1, 80, plain(8), a, b)), 8);
        due("tip", rig.x.tip(1), 8);
        // Two go for two, one of which goes for another, and the reward comes.
        due("coins then", rig.x.count(2), 11);
        due("sum", rig.x.count(3), 6000000 + 100 + 60 + 30 + 5);
        due("spent before", rig.pay(pays(1, Rig.coin(fifties(), 0)).bytes), RULE);
        due("spent in the same block", rig.pay(pays(1, Rig.coin(a, 0)).bytes), RULE);
        due("left", rig.pay(pays(30, Rig.coin(a, 1)).bytes), 0);
        due("last", rig.pay(pays(60, Rig.coin(b, 0)).bytes), 0);
        due("untouched", rig.pay(pays(50, Rig.coin(fifties(), 2)).bytes), 0);
    }

    private static void rewardAndFees() {
        Rig.says("are together at most REWARD + FEES");
        int most = Integer.MAX_VALUE;
        Rig.holds("reward", Rig.standAlone(fifties(), rewarding(1000000)));
        Rig.holds("less", Rig.standAlone(fifties(), rewarding(0)));
        Rig.holds("one more", !Rig.standAlone(fifties(), rewarding(1000001)));
        Rig.holds("together", Rig.standAlone(fifties(), rewarding(1, 2, 999997)));
        Rig.holds("together one more", !Rig.standAlone(fifties(), rewarding(1, 2, 999998)));
        Rig.holds("more than a number", !Rig.standAlone(fifties(), rewarding(most, most, 2)));
        Rig.holds("all they can", !Rig.standAlone(fifties(), rewarding(most, most, most, most, most, most, most, most)));
        Model.Tx ten = pays(40, Rig.coin(fifties(), 0));
        Model.Tx three = pays(47, Rig.coin(fifties(), 1));
        Model.Tx none = pays(50, Rig.coin(fifties(), 2));
        Rig.holds("with fees", Rig.standAlone(fifties(), rewarding(1000013), ten, none, three));
        Rig.holds("one more than with fees", !Rig.standAlone(fifties(), rewarding(1000014), ten, none, three));
        Rig.holds("a fee of 0", Rig.standAlone(fifties(), rewarding(1000000), none));
        Rig.holds("one more than with a fee of 0", !Rig.standAlone(fifties(), rewarding(1000001), none));
    }

    private static void rewards() {
        Rig.says("REWARD: 1000000 shifted right by h / 16 (0 from h = 320 on)");
        int[][] cases = {{1, 1000000}, {15, 1000000}, {16, 500000}, {31, 500000}, {32, 250000}, {47, 250000},
            {48, 125000}};
        for (int[] c : cases) {
            Rig rig = grown(c[0] - 1);
            rig.x.draft(-1, 100000, 1, false);
            due("drafted for " + c[0], rig.outNumber(83), c[1]);
            byte[] more = rig.on(-1, 100000, Rig.first(c[0], c[1] + 1, NO_LOCK));
            due("one more for " + c[0], rig.block(more), c[0]);
            due("is not followed", rig.x.tip(0), c[0] - 1);
            byte[] just = rig.on(-1, 100000, Rig.first(c[0], c[1], NO_LOCK));
            due("just that for " + c[0], rig.block(just), c[0] + 1);
            due("is followed", rig.x.tip(0), c[0]);
        }
        // No run can reach a height above 255.
        Rig rig = full();
        long sum = 0;
        for (int h = 1; h <= 255; h++) {
            sum += 1000000 / (1L << h / 16);
        }
        due("sum", rig.x.count(3), sum);
        rig.x.draft(238, 100000, 1, false);
        due("drafted for 239", rig.outNumber(83), 61);
        Rig last = full();
        last.x.draft(254, 100000, 1, false);
        due("drafted for 255", last.outNumber(83), 30);
    }

    private static Rig grown(int n) {
        Rig rig = new Rig();
        rig.growTip(n);
        return rig;
    }

    private static void mostWork() {
        Rig.says("THE TIP is the SOUND BLOCK whose chain has the most WORK, of several the one of the earliest ARRIVAL");
        Rig rig = chain(1, 2, 3, 4, 5, 6, 160);
        due("of work 256", rig.grow(7, 161, 1, false), 8);
        due("tip", rig.x.tip(1), 8);
        // Another seventh block, and an eighth of the same work: it came later.
        due("seventh", rig.grow(6, 161, 1, false), 9);
        due("of work 256, later", rig.grow(9, 162, 1, false), 10);
        due("as much", rig.x.tip(1), 8);
        due("seventh once more", rig.grow(6, 159, 1, false), 11);
        due("of work 257", rig.grow(11, 160, 1, false), 12);
        due("one more", rig.x.tip(1), 12);
        due("work", rig.x.tip(2), 7 * 512 + 257);
        due("of work 256 again", rig.grow(8, 163, 1, false), 13);
        due("back to the first", rig.x.tip(1), 13);
    }
}

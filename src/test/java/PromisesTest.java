import java.util.ArrayList;
import java.util.Arrays;
import java.util.List;

/** Each promise of the document by itself: ordinary inputs, edges and wrong inputs. */
public final class PromisesTest {
    private static final int REFUSED = -1, NONE = -2, FORM = -3, KNOWN = -4, FULL = -5, RULE = -6;

    public static void main(String[] args) {
        promise1NewObject();
        promise2Feed();
        promise3End();
        promise4Alter();
        promise6Pay();
        promise6Sizes();
        promise6PayChains();
        promise6PoolAnew();
        promise7Draft();
        promise7DraftWithPool();
        promise8Mine();
        promise9Spend();
        promise10Sign();
        promise11Script();
        promise12Send();
        promise13Back();
        promise14Tip();
        promise15Stored();
        promise16Coin();
        promise17Balance();
        promise18Pooled();
        promise19Octet();
        promise20Count();
        Rig.finish("PromisesTest");
    }

    private static void due(String what, long got, long want) {
        Rig.due(what, got, want);
    }

    private static void promise1NewObject() {
        ChainLedger x = new ChainLedger();
        long[] counts = {1, 0, 0, 0, 0, 0, 0};
        for (int what = 0; what < counts.length; what++) {
            due("1 count " + what, x.count(what), counts[what]);
        }
        int[] root = {0, NONE, 0, 32768, 0, 1};
        for (int what = 0; what < root.length; what++) {
            due("1 stored " + what, x.stored(0, what), root[what]);
        }
        for (int what = 0; what < 4; what++) {
            due("1 tip " + what, x.tip(what), 0);
        }
        due("1 stored 1", x.stored(1, 0), NONE);
        due("1 coin", x.coin(0, 0), NONE);
        due("1 pooled", x.pooled(0, 0), NONE);
        due("1 octet", x.octet(-1), 0);
        // Objects do not share anything.
        Rig other = new Rig();
        other.growTip(2);
        due("1 other", x.count(0), 1);
    }

    private static void promise2Feed() {
        ChainLedger x = new ChainLedger();
        due("2 feed", x.feed(0x01020304, -1, 0x80000000, 0, 0x7f000001), 20);
        int[] bytes = {1, 2, 3, 4, 255, 255, 255, 255, 128, 0, 0, 0, 0, 0, 0, 0, 127, 0, 0, 1};
        for (int i = 0; i < bytes.length; i++) {
            due("2 byte " + i, x.alter(i, 0), bytes[i]);
        }
        for (int n = 2; n <= 204; n++) {
            due("2 feed " + n, x.feed(n, 0, 0, 0, 0), 20 * n);
        }
        due("2 full", x.feed(9, 9, 9, 9, 9), FULL);
        due("2 count", x.count(6), 4080);
        x.end(4077);
        due("2 full by one", x.feed(9, 9, 9, 9, 9), FULL);
        due("2 end", x.end(4076), 4076);
        due("2 brim", x.feed(9, 9, 9, 9, 0x01010107), 4096);
        due("2 last byte", x.alter(4095, 1), 7);
        due("2 behind brim", x.feed(0, 0, 0, 0, 0), FULL);
    }

    private static void promise3End() {
        ChainLedger x = new ChainLedger();
        due("3 empty", x.end(0), 0);
        due("3 empty 1", x.end(1), REFUSED);
        x.feed(0x01020304, 0, 0, 0, 0x05060708);
        due("3 more", x.end(21), REFUSED);
        due("3 below 0", x.end(-1), REFUSED);
        due("3 lowest", x.end(Integer.MIN_VALUE), REFUSED);
        due("3 stays", x.count(6), 20);
        due("3 all", x.end(20), 20);
        due("3 cut", x.end(3), 3);
        due("3 kept", x.alter(2, 0), 3);
        due("3 gone", x.alter(3, 0), REFUSED);
        due("3 less", x.end(4), REFUSED);
        due("3 goes on", x.feed(0x0a000000, 0, 0, 0, 0), 23);
        due("3 follows", x.alter(3, 0), 10);
    }

    private static void promise4Alter() {
        ChainLedger x = new ChainLedger();
        due("4 empty", x.alter(0, 0), REFUSED);
        x.feed(-1, 0, 0, 0, 200);
        due("4 first", x.alter(0, 255), 255);
        due("4 last", x.alter(19, 0), 200);
        due("4 was", x.alter(19, 255), 0);
        due("4 unsigned", x.alter(19, 1), 255);
        due("4 behind", x.alter(20, 1), REFUSED);
        due("4 before", x.alter(-1, 1), REFUSED);
        due("4 value above", x.alter(0, 256), REFUSED);
        due("4 value below", x.alter(0, -1), REFUSED);
        due("4 kept", x.alter(0, 3), 255);
        due("4 size", x.count(6), 20);
    }

    private static byte[] open() {
        return Model.bytes(102);
    }

    private static void promise6Pay() {
        byte[] lock = new byte[0];
        Model.Tx first = Rig.first(1, 50, lock, lock, lock, lock, lock, lock, lock, Model.keyLock(5));
        Rig rig = Rig.withCoins(first);
        due("6 empty", rig.pay(new byte[0]), FORM);
        Model.Tx none = Rig.payment(0, lock);
        due("6 no inputs", rig.pay(none.bytes), FORM);
        Model.Tx tx = Rig.keyed(Rig.payment(45, lock, Rig.coin(first, 0)), open());
        due("6 a byte more", rig.pay(Model.join(tx.bytes, Model.bytes(0))), FORM);
        due("6 a byte less", rig.pay(Arrays.copyOf(tx.bytes, tx.bytes.length - 1)), FORM);
        due("6 two", rig.pay(Model.join(tx.bytes, tx.bytes)), FORM);
        due("6 fee", rig.pay(tx.bytes), 5);
        due("6 known", rig.pay(tx.bytes), KNOWN);
        due("6 pooled", rig.x.count(4), 1);
        Model.Tx other = Rig.keyed(Rig.payment(44, lock, Rig.coin(first, 0)), open());
        due("6 spent there", rig.pay(other.bytes), RULE);
        payWrongOnes(rig, first);
        due("6 all of it", rig.pay(Rig.keyed(Rig.payment(50, lock, Rig.coin(first, 1)), open()).bytes), 0);
        due("6 two inputs", rig.pay(Rig.keyed(
                Rig.payment(99, lock, Rig.coin(first, 2), Rig.coin(first, 3)), open()).bytes), 1);
        due("6 wrong key again", rig.pay(Rig.signed(Rig.payment(2, lock, Rig.coin(first, 7)), 6).bytes), RULE);
        due("6 signed", rig.pay(Rig.signed(Rig.payment(50, lock, Rig.coin(first, 7)), 5).bytes), 0);
        Model.Tx locked = Rig.payment(50, lock, Rig.coin(first, 4));
        locked.lock = 9;
        due("6 lock above", rig.pay(Rig.keyed(locked, open()).bytes), RULE);
        locked.lock = 8;
        due("6 lock at", rig.pay(Rig.keyed(locked, open()).bytes), 0);
    }

    private static void payWrongOnes(Rig rig, Model.Tx first) {
        byte[] lock = new byte[0];
        due("6 unknown coin", rig.pay(Rig.keyed(Rig.payment(1, lock, Rig.ZEROS + "00"), open()).bytes), RULE);
        Model.Tx twice = Rig.keyed(Rig.payment(1, lock, Rig.coin(first, 1), Rig.coin(first, 1)), open());
        due("6 named twice", rig.pay(twice.bytes), RULE);
        due("6 more out", rig.pay(Rig.keyed(Rig.payment(51, lock, Rig.coin(first, 1)), open()).bytes), RULE);
        due("6 wrong key", rig.pay(Rig.signed(Rig.payment(1, lock, Rig.coin(first, 7)), 6).bytes), RULE);
        due("6 false", rig.pay(Rig.payment(1, lock, Rig.coin(first, 1)).bytes), RULE);
        // The sum of the outputs is beyond an int.
        Model.Tx huge = Rig.payment(2147483647, lock, Rig.coin(first, 1));
        huge.outs.add(Rig.output(2147483647, lock));
        huge.outs.add(Rig.output(52, lock));
        due("6 huge", rig.pay(Rig.keyed(huge, open()).bytes), RULE);
        // Every field at its limit and beyond.
        Model.Tx right = Rig.keyed(Rig.payment(1, lock, Rig.coin(first, 1)), open());
        int[][] wrong = {{0, 128}, {4, 9}, {37, 8}, {37, 255}, {38, 81}, {38, 255}, {40, 0}, {40, 9}, {40, 255},
            {41, 128}, {45, 81}, {45, 255}, {45, 1}};
        for (int[] change : wrong) {
            byte[] bytes = right.bytes.clone();
            bytes[change[0]] = (byte) change[1];
            due("6 byte " + change[0] + " is " + change[1], rig.pay(bytes), FORM);
        }
        for (int inputs = 128; inputs <= 255; inputs++) {
            due("6 inputs " + inputs, new Rig().pay(Model.bytes(0, 0, 0, 0, inputs, 1, 0, 0, 0, 0, 0)), FORM);
        }
    }

    private static void promise6Sizes() {
        byte[] lock = new byte[0];
        Model.Tx first = Rig.first(1, 50, lock, lock, lock);
        Rig rig = Rig.withCoins(first);
        Model.Tx most = Rig.longOne(first, 0, 5, 71, 71, 70);
        Model.Tx more = Rig.longOne(first, 0, 5, 71, 71, 71);
        due("6 bytes", most.bytes.length, 1000);
        due("6 of 1001", rig.pay(more.bytes), FORM);
        due("6 of 1000", rig.pay(most.bytes), 5);
        due("6 its bytes", rig.x.pooled(0, 1), 1000);
    }

    /** What is due for one that could not follow behind payment i of the pool. */
    private static int tooLate(int i) {
        return i == 31 ? FULL : RULE;
    }

    private static void promise6PayChains() {
        byte[] lock = new byte[0];
        Model.Tx first = Rig.first(1, 50, lock);
        Rig rig = Rig.withCoins(first);
        // Each pays on what the one before it has left, though no block has any of them.
        Model.Tx last = Rig.keyed(Rig.payment(49, lock, Rig.coin(first, 0)), open());
        due("6 chain 0", rig.pay(last.bytes), 1);
        for (int i = 1; i < 32; i++) {
            Model.Tx next = Rig.keyed(Rig.payment(49 - i, lock, Rig.coin(last, 0)), open());
            due("6 chain " + i, rig.pay(next.bytes), 1);
            if (i % 6 == 1) {
                due("6 index", rig.pay(Rig.keyed(Rig.payment(1, lock, Rig.coin(last, 1)), open()).bytes), tooLate(i));
                due("6 spent", rig.pay(Rig.keyed(Rig.payment(3, lock, Rig.coin(last, 0)), open()).bytes), tooLate(i));
                due("6 known", rig.pay(last.bytes), KNOWN);
            }
            last = next;
        }
        due("6 pool", rig.x.count(4), 32);
        Model.Tx more = Rig.keyed(Rig.payment(1, lock, Rig.coin(last, 0)), open());
        due("6 full", rig.pay(more.bytes), FULL);
        due("6 full, wrong", rig.pay(Rig.payment(1, lock, Rig.coin(last, 0)).bytes), FULL);
        due("6 full, known", rig.pay(last.bytes), KNOWN);
        due("6 full, form", rig.pay(new byte[3]), FORM);
        // A block takes 31 of them: the last one stays, and may be followed again.
        due("6 block", rig.grow(-1, 200, 1, true), 8);
        due("6 in block", rig.x.stored(8, 4), 32);
        due("6 stays", rig.x.count(4), 1);
        due("6 room again", rig.pay(more.bytes), 17);
        due("6 reward", rig.x.count(3), 7000050);
    }

    private static void promise6PoolAnew() {
        byte[] lock = new byte[0];
        Model.Tx first = Rig.first(1, 50, lock, lock, lock, lock);
        Rig rig = Rig.withCoins(first);
        Model.Tx a = Rig.keyed(Rig.payment(49, lock, Rig.coin(first, 0)), open());
        Model.Tx b = Rig.keyed(Rig.payment(48, lock, Rig.coin(first, 1)), open());
        Model.Tx c = Rig.keyed(Rig.payment(47, lock, Rig.coin(a, 0)), open());
        Model.Tx d = Rig.keyed(Rig.payment(44, lock, Rig.coin(first, 2)), open());
        due("6 a", rig.pay(a.bytes), 1);
        due("6 b", rig.pay(b.bytes), 2);
        due("6 block 8", rig.grow(-1, 100, 1, true), 8);
        due("6 taken", rig.x.count(4), 0);
        due("6 c", rig.pay(c.bytes), 2);
        due("6 block 9", rig.grow(-1, 110, 1, true), 9);
        due("6 d", rig.pay(d.bytes), 6);
        // Another branch from block 7 on has one that spends what b does.
        Model.Tx rival = Rig.keyed(Rig.payment(40, lock, Rig.coin(first, 1)), open());
        rig.x.draft(7, 101, 2, false);
        byte[] drafted = rig.out();
        int target = java.nio.ByteBuffer.wrap(drafted).getInt(68);
        String parent = Model.hex(Arrays.copyOf(drafted, 32));
        byte[] ten = Rig.mined(parent, 101, target, Rig.first(8, 1000, lock), rival);
        due("6 block 10", rig.block(ten), 10);
        due("6 not yet", rig.x.tip(1), 9);
        due("6 d stays", rig.x.count(4), 1);
        due("6 block 11", rig.grow(10, 120, 2, false), 11);
        due("6 level", rig.x.tip(1), 9);
        rig.x.draft(11, 130, 2, false);
        due("6 block 12", rig.block(Rig.mine(rig.out())), 12);
        due("6 other branch", rig.x.tip(1), 12);
        // a and c come back in their order, before d; b may not.
        due("6 anew", rig.x.count(4), 3);
        int[] fees = {1, 2, 6};
        for (int k = 0; k < 3; k++) {
            due("6 fee " + k, rig.x.pooled(k, 0), fees[k]);
        }
        due("6 a is known", rig.pay(a.bytes), KNOWN);
        due("6 b is not right", rig.pay(b.bytes), RULE);
        due("6 block 13", rig.grow(-1, 140, 2, true), 13);
        due("6 all in it", rig.x.stored(13, 4), 4);
        due("6 none left", rig.x.count(4), 0);
    }

    private static void promise7Draft() {
        Rig rig = new Rig();
        due("7 bytes", rig.x.draft(-1, 0x01020304, 0x0a0b0c0d, false), 94);
        byte[] want = Model.blockBytes(new Model.Node(), 0x01020304, 32768, 0,
                List.of(Model.firstTx(1, 1000000, Model.keyLock(0x0a0b0c0d))));
        due("7 as due", Arrays.equals(rig.out(), want) ? 1 : 0, 1);
        due("7 no such block", rig.x.draft(1, 5, 0, false), REFUSED);
        due("7 below -1", rig.x.draft(-2, 5, 0, false), REFUSED);
        due("7 time below 0", rig.x.draft(0, -1, 0, false), REFUSED);
        due("7 stays", Arrays.equals(rig.out(), want) ? 1 : 0, 1);
        due("7 time 0", rig.x.draft(0, 0, 0, true), 94);
        due("7 does not come", rig.x.count(0), 1);
        rig.growTip(17);
        due("7 height 16", rig.x.draft(15, 900, 3, true), 94);
        due("7 lock", rig.out()[80], 16);
        due("7 half", java.nio.ByteBuffer.wrap(rig.out()).getInt(83), 500000);
        due("7 target", java.nio.ByteBuffer.wrap(rig.out()).getInt(68), rig.x.stored(16, 3));
        due("7 height 15", rig.x.draft(14, 900, 3, true), 94);
        due("7 whole", java.nio.ByteBuffer.wrap(rig.out()).getInt(83), 1000000);
    }

    private static void promise7DraftWithPool() {
        for (int more = 0; more < 2; more++) {
            byte[] lock = new byte[0];
            Model.Tx first = Rig.first(1, 50, lock, lock, lock, lock, lock, lock, lock);
            Rig rig = Rig.withCoins(first);
            for (int i = 0; i < 4; i++) {
                due("7 long one", rig.pay(Rig.longOne(first, i, i, 77).bytes), i);
            }
            due("7 of four", rig.x.draft(-1, 100, 1, true), 94 + 4 * 797);
            due("7 fees of four", java.nio.ByteBuffer.wrap(rig.out()).getInt(83), 1000006);
            // With the fifth there are 4096 bytes, or one more; the sixth would fit in its place.
            due("7 fifth", rig.pay(Rig.longOne(first, 4, 9, 30, 30 + more).bytes), 9);
            due("7 sixth", rig.pay(Rig.keyed(Rig.payment(30, lock, Rig.coin(first, 6)), open()).bytes), 20);
            due("7 with five", rig.x.draft(7, 100, 1, true), more == 0 ? 4096 : 3282);
            due("7 fees", java.nio.ByteBuffer.wrap(rig.out()).getInt(83), more == 0 ? 1000015 : 1000006);
            due("7 how many", rig.out()[76], more == 0 ? 6 : 5);
            due("7 not asked", rig.x.draft(-1, 100, 1, false), 94);
            due("7 not the tip", rig.x.draft(6, 100, 1, true), 94);
            due("7 block", rig.grow(-1, 100, 1, true), 8);
            due("7 tip", rig.x.tip(1), 8);
            due("7 left", rig.x.count(4), more == 0 ? 1 : 2);
        }
    }

    private static void promise8Mine() {
        Rig rig = new Rig();
        due("8 empty", rig.x.mine(5), REFUSED);
        int never = 0;
        for (int time = 1; time <= 40; time++) {
            rig.x.draft(0, time, 1, false);
            byte[] before = rig.out();
            int grown = rig.x.mine(1);
            byte[] after = rig.out();
            boolean right = Model.leading(before) < 32768;
            Model.setNonce(before, 1);
            boolean next = Model.leading(before) < 32768;
            due("8 one for " + time, grown, right ? 0 : next ? 1 : NONE);
            due("8 nonce for " + time, Model.nonce(after), right ? 0 : 1);
            due("8 formed for " + time, Model.readBlock(after) != null ? 1 : 0, right || next ? 1 : 0);
            never += grown == NONE ? 1 : 0;
            int again = rig.x.mine(2000);
            due("8 again for " + time, again, Model.nonce(rig.out()) - Model.nonce(after));
            due("8 then none for " + time, rig.x.mine(1), 0);
        }
        due("8 some were not enough", never > 0 ? 1 : 0, 1);
        // An id that begins with the target itself is not below it.
        Model.Tx first = Model.firstTx(1, 1000000, Model.keyLock(1));
        int time = 1;
        while (Model.leading(Model.blockBytes(new Model.Node(), time, 32768, 0, List.of(first))) != 32768) {
            time++;
        }
        rig.x.draft(0, time, 1, false);
        due("8 at the target", rig.x.mine(2000), Model.nonce(rig.out()));
        due("8 not at once", Model.nonce(rig.out()) > 0 ? 1 : 0, 1);
        due("8 of 0", rig.x.mine(0), REFUSED);
        due("8 below 0", rig.x.mine(-1), REFUSED);
        due("8 of 2001", rig.x.mine(2001), REFUSED);
        due("8 of 2000", rig.x.mine(2000), 0);
        rig.growTip(1);
        due("8 spend", rig.x.spend(0, 1, 1, 1, 1), 62);
        due("8 a payment", rig.x.mine(5), REFUSED);
        due("8 stays", rig.x.octet(-1), 62);
    }

    private static void promise9Spend() {
        Rig rig = new Rig();
        due("9 no coins", rig.x.spend(0, 1, 0, 0, 0), REFUSED);
        rig.growTip(9);
        due("9 none of two", rig.x.spend(8, 2, 0, 0, 0), REFUSED);
        due("9 none at 9", rig.x.spend(9, 1, 0, 0, 0), REFUSED);
        due("9 below 0", rig.x.spend(-1, 1, 0, 0, 0), REFUSED);
        due("9 far", rig.x.spend(Integer.MAX_VALUE, 8, 0, 0, 0), REFUSED);
        due("9 of 0", rig.x.spend(0, 0, 0, 0, 0), REFUSED);
        due("9 of 9", rig.x.spend(0, 9, 0, 0, 0), REFUSED);
        due("9 value below 0", rig.x.spend(0, 1, 0, -1, 0), REFUSED);
        due("9 fee below 0", rig.x.spend(0, 1, 0, 0, -1), REFUSED);
        due("9 both more", rig.x.spend(0, 1, 0, 999999, 2), REFUSED);
        due("9 far more", rig.x.spend(0, 1, 0, Integer.MAX_VALUE, Integer.MAX_VALUE), REFUSED);
        due("9 nothing made", rig.x.octet(77), rig.out()[77]);
        due("9 all", rig.x.spend(0, 1, 0, 999999, 1), 51);
        due("9 one output", Model.readTx(rig.out()).outs.size(), 1);
        due("9 all but one", rig.x.spend(0, 1, 0, 999999, 0), 62);
        due("9 nothing", rig.x.spend(0, 1, 0, 0, 0), 62);
        due("9 two", rig.x.spend(7, 2, 0x01020304, 300, 7), 96);
        byte[] out = rig.out();
        Model.Tx tx = Model.readTx(out);
        due("9 lock", tx.lock, 0);
        for (int i = 0; i < 2; i++) {
            due("9 id " + i, Integer.parseInt(tx.ins.get(i).coin.substring(0, 4), 16), rig.x.coin(7 + i, 5));
            due("9 index " + i, Integer.parseInt(tx.ins.get(i).coin.substring(64)), rig.x.coin(7 + i, 2));
            due("9 no key " + i, tx.ins.get(i).key.length, 0);
        }
        due("9 value", tx.outs.get(0).value, 300);
        due("9 to key", Arrays.equals(tx.outs.get(0).lock, Model.keyLock(0x01020304)) ? 1 : 0, 1);
        due("9 rest", tx.outs.get(1).value, 2000000 - 307);
        due("9 to key 0", Arrays.equals(tx.outs.get(1).lock, Model.keyLock(0)) ? 1 : 0, 1);
        due("9 eight", rig.x.spend(1, 8, 0, 1, 1), 300);
        due("9 refused", rig.x.spend(0, 9, 0, 1, 1), REFUSED);
        due("9 stays", rig.x.octet(-1), 300);
    }

    private static void promise10Sign() {
        Rig rig = new Rig();
        due("10 empty", rig.x.sign(0, 1), REFUSED);
        rig.growTip(7);
        due("10 a block", rig.x.sign(0, 1), REFUSED);
        rig.x.spend(0, 3, 1, 5, 5);
        byte[] signHash = Model.readTx(rig.out()).signHash();
        due("10 first", rig.x.sign(0, 0x01020304), 139);
        due("10 last", rig.x.sign(2, -1), 148);
        due("10 again", rig.x.sign(0, 7), 148);
        Model.Tx tx = Model.readTx(rig.out());
        int[] keys = {7, 0, -1};
        for (int i = 0; i < 3; i++) {
            byte[] want = i == 1 ? new byte[0] : Maker.pushSignature(Model.number(keys[i]), signHash);
            due("10 key script " + i, Arrays.equals(tx.ins.get(i).key, want) ? 1 : 0, 1);
        }
        due("10 behind", rig.x.sign(3, 1), REFUSED);
        due("10 before", rig.x.sign(-1, 1), REFUSED);
        due("10 stays", rig.x.octet(-1), 148);
    }

    private static void promise11Script() {
        Rig rig = new Rig();
        rig.tape(new byte[5]);
        due("11 empty", rig.x.script(-1), REFUSED);
        due("11 tape stays", rig.x.count(6), 5);
        rig.growTip(8);
        due("11 a block", rig.x.script(-1), REFUSED);
        rig.x.spend(0, 2, 1, 5, 5);
        rig.tape(new byte[81]);
        due("11 too long", rig.x.script(-1), REFUSED);
        due("11 long tape stays", rig.x.count(6), 81);
        rig.tape(new byte[80]);
        due("11 which -2", rig.x.script(-2), REFUSED);
        due("11 which 2", rig.x.script(2), REFUSED);
        due("11 which 8", rig.x.script(8), REFUSED);
        due("11 refused, tape stays", rig.x.count(6), 80);
        due("11 lock", rig.x.script(-1), 96 - 6 + 80);
        due("11 tape is empty", rig.x.count(6), 0);
        due("11 empty lock", rig.x.script(-1), 90);
        rig.tape(Model.bytes(1, 2, 3));
        due("11 key 1", rig.x.script(1), 93);
        rig.tape(Model.bytes(4, 5));
        due("11 key 0", rig.x.script(0), 95);
        rig.tape(Model.bytes(6));
        due("11 shorter", rig.x.script(1), 93);
        Model.Tx tx = Model.readTx(rig.out());
        due("11 key script 0", Arrays.equals(tx.ins.get(0).key, Model.bytes(4, 5)) ? 1 : 0, 1);
        due("11 key script 1", Arrays.equals(tx.ins.get(1).key, Model.bytes(6)) ? 1 : 0, 1);
        due("11 first lock", tx.outs.get(0).lock.length, 0);
        due("11 second lock", tx.outs.get(1).lock.length, 6);
        rig.x.spend(0, 8, 1, 5, 5);
        rig.tape(Model.bytes(9));
        due("11 key 7", rig.x.script(7), 301);
    }

    private static void promise12Send() {
        Rig rig = new Rig();
        due("12 empty", rig.x.send(), REFUSED);
        rig.tape(new byte[7]);
        rig.x.draft(0, 5, 1, false);
        while (rig.x.mine(1) < 0) {
            // Not enough yet.
        }
        due("12 block", rig.x.send(), 1);
        due("12 again", rig.x.send(), KNOWN);
        due("12 out stays", rig.x.octet(-1), 94);
        due("12 tape stays", rig.x.count(6), 7);
        int time = 6;
        rig.x.draft(1, time, 1, false);
        while (Model.leading(rig.out()) < 32768) {
            rig.x.draft(1, ++time, 1, false);
        }
        due("12 not mined", rig.x.send(), FORM);
        rig.growTip(6);
        int old = -1;
        for (int k = 0; k < 7; k++) {
            old = rig.x.coin(k, 1) == 1 ? k : old;
        }
        rig.x.spend(old, 1, 2, 10, 3);
        due("12 not signed", rig.x.send(), RULE);
        rig.x.sign(0, 1);
        due("12 paid", rig.x.send(), 3);
        due("12 paid again", rig.x.send(), KNOWN);
        due("12 in pool", rig.x.count(4), 1);
        due("12 tape stays still", rig.x.count(6), 7);
        // What is in the pool does not change with out.
        rig.x.sign(0, 9);
        due("12 other now", rig.x.send(), RULE);
        due("12 block with it", rig.grow(-1, 500, 1, true), 8);
        due("12 two in it", rig.x.stored(8, 4), 2);
        due("12 pool", rig.x.count(4), 0);
    }

    private static void promise13Back() {
        Rig rig = new Rig();
        rig.tape(new byte[9]);
        due("13 empty", rig.x.back(), 0);
        due("13 tape is empty", rig.x.count(6), 0);
        rig.x.draft(0, 5, 1, false);
        rig.tape(new byte[200]);
        due("13 bytes", rig.x.back(), 94);
        due("13 tape", rig.x.count(6), 94);
        due("13 out stays", rig.x.octet(-1), 94);
        for (int i = 0; i < 94; i++) {
            due("13 byte " + i, rig.x.alter(i, 1), rig.x.octet(i));
        }
        due("13 out is its own", rig.x.octet(93), 95);
    }

    private static void promise14Tip() {
        Rig rig = new Rig();
        due("14 below", rig.x.tip(-1), REFUSED);
        due("14 above", rig.x.tip(4), REFUSED);
        long work = 0;
        boolean high = false;
        boolean low = false;
        for (int i = 1; i <= 40; i++) {
            rig.grow(-1, i * 3, 1, false);
            byte[] out = rig.out();
            work += 16777216 / java.nio.ByteBuffer.wrap(out).getInt(68);
            long id = Long.parseLong(Rig.id(out).substring(0, 8), 16);
            high |= id >= 1L << 30;
            low |= id < 1L << 30;
            due("14 height", rig.x.tip(0), i);
            due("14 number", rig.x.tip(1), i);
            due("14 work", rig.x.tip(2), work);
            due("14 id", rig.x.tip(3), id);
        }
        due("14 both kinds of id", high && low ? 1 : 0, 1);
        // With a higher target the id may have its highest bit set: it has no sign.
        Rig slow = new Rig();
        boolean above = false;
        for (int i = 1; i <= 30; i++) {
            slow.grow(-1, i * 100, 1, false);
            above |= slow.x.tip(3) >= 1L << 31;
            due("14 not below 0", slow.x.tip(3) < 0 ? 1 : 0, 0);
        }
        due("14 high bit", above ? 1 : 0, 1);
    }

    private static void promise15Stored() {
        Rig rig = new Rig();
        rig.growTip(2);
        rig.grow(1, 33, 4, false);
        due("15 height", rig.x.stored(3, 0), 2);
        due("15 parent", rig.x.stored(3, 1), 1);
        due("15 parent of 2", rig.x.stored(2, 1), 1);
        due("15 parent of 1", rig.x.stored(1, 1), 0);
        due("15 time", rig.x.stored(3, 2), 33);
        due("15 target", rig.x.stored(3, 3), 32768);
        due("15 payments", rig.x.stored(3, 4), 1);
        int[] followed = {1, 1, 1, 0};
        for (int n = 0; n < 4; n++) {
            due("15 followed " + n, rig.x.stored(n, 5), followed[n]);
        }
        rig.grow(3, 44, 4, false);
        int[] later = {1, 1, 0, 1, 1};
        for (int n = 0; n < 5; n++) {
            due("15 later " + n, rig.x.stored(n, 5), later[n]);
        }
        due("15 none", rig.x.stored(5, 0), NONE);
        due("15 below 0", rig.x.stored(-1, 0), NONE);
        due("15 what below", rig.x.stored(0, -1), REFUSED);
        due("15 what above, first", rig.x.stored(99, 6), REFUSED);
    }

    private static void promise16Coin() {
        Rig rig = new Rig();
        Model.Tx first = Rig.first(1, 7, new byte[3], new byte[0], new byte[80]);
        rig.block(Rig.mined(Rig.ZEROS, 10, 32768, first));
        due("16 none", rig.x.coin(3, 0), NONE);
        for (int k = 0; k < 3; k++) {
            int[] want = {7, 1, k, 1, new int[] {3, 0, 80}[k], Integer.parseInt(first.id().substring(0, 4), 16)};
            for (int what = 0; what < 6; what++) {
                due("16 coin " + k + " what " + what, rig.x.coin(k, what), want[what]);
            }
        }
        due("16 below 0", rig.x.coin(-1, 0), NONE);
        due("16 what above, first", rig.x.coin(-1, 6), REFUSED);
        due("16 what below, first", rig.x.coin(99, -1), REFUSED);
        rig.growTip(30);
        int last = -1;
        boolean high = false;
        for (int k = 0; k < 33; k++) {
            int lead = rig.x.coin(k, 5);
            due("16 in order " + k, lead >= last ? 1 : 0, 1);
            last = lead;
            high |= lead >= 32768;
        }
        due("16 unsigned", high ? 1 : 0, 1);
        due("16 how many", rig.x.coin(33, 0), NONE);
        int old = -1;
        for (int k = 0; k < 33; k++) {
            old = rig.x.coin(k, 1) == 2 ? k : old;
        }
        rig.x.spend(old, 1, 1, 100, 0);
        rig.x.sign(0, 1);
        due("16 paid", rig.x.send(), 0);
        due("16 not yet", rig.x.coin(33, 0), NONE);
        rig.grow(-1, 2000, 1, true);
        int made = 0;
        for (int k = 0; k < 35; k++) {
            made += rig.x.coin(k, 3) == 0 && rig.x.coin(k, 1) == 32 ? 1 : 0;
            due("16 gone", rig.x.coin(k, 1) == 2 ? 1 : 0, 0);
        }
        due("16 made", made, 2);
    }

    private static void promise17Balance() {
        Rig rig = new Rig();
        due("17 none", rig.x.balance(), 0);
        byte[] lock = Model.bytes(1, 2, 3);
        rig.block(Rig.mined(Rig.ZEROS, 10, 32768, Rig.first(1, 7, lock, new byte[0], lock, new byte[80])));
        rig.growTip(2);
        rig.tape(lock);
        due("17 two", rig.x.balance(), 14);
        due("17 tape is empty", rig.x.count(6), 0);
        due("17 empty lock", rig.x.balance(), 7);
        rig.tape(new byte[80]);
        due("17 longest", rig.x.balance(), 7);
        rig.tape(new byte[81]);
        due("17 longer", rig.x.balance(), 0);
        due("17 tape is empty again", rig.x.count(6), 0);
        rig.tape(Model.bytes(1, 2));
        due("17 beginning", rig.x.balance(), 0);
        rig.tape(Model.bytes(1, 2, 4));
        due("17 other", rig.x.balance(), 0);
        rig.tape(Model.keyLock(1));
        due("17 rewards", rig.x.balance(), 2000000);
    }

    private static void promise18Pooled() {
        byte[] lock = new byte[0];
        Model.Tx first = Rig.first(1, 50, lock, lock, lock);
        Rig rig = Rig.withCoins(first);
        Model.Tx a = Rig.keyed(Rig.payment(49, lock, Rig.coin(first, 0)), open());
        Model.Tx b = Rig.payment(60, lock, Rig.coin(first, 1), Rig.coin(first, 2));
        b.outs.add(Rig.output(1, new byte[9]));
        b.outs.add(Rig.output(2, new byte[9]));
        Rig.keyed(b, open());
        rig.pay(a.bytes);
        rig.pay(b.bytes);
        int[][] want = {{1, a.bytes.length, 1, 1}, {37, b.bytes.length, 2, 3}};
        for (int k = 0; k < 2; k++) {
            for (int what = 0; what < 4; what++) {
                due("18 pooled " + k + " what " + what, rig.x.pooled(k, what), want[k][what]);
            }
        }
        due("18 none", rig.x.pooled(2, 0), NONE);
        due("18 below 0", rig.x.pooled(-1, 0), NONE);
        due("18 what above, first", rig.x.pooled(5, 4), REFUSED);
        due("18 what below, first", rig.x.pooled(-5, -1), REFUSED);
    }

    private static void promise19Octet() {
        Rig rig = new Rig();
        due("19 empty", rig.x.octet(-1), 0);
        due("19 none", rig.x.octet(0), NONE);
        rig.x.draft(0, 255, -1, false);
        due("19 how many", rig.x.octet(-1), 94);
        due("19 unsigned", rig.x.octet(67), 255);
        due("19 key", rig.x.octet(89), 255);
        due("19 last", rig.x.octet(93), 95);
        due("19 behind", rig.x.octet(94), NONE);
        due("19 before", rig.x.octet(-2), NONE);
        due("19 lowest", rig.x.octet(Integer.MIN_VALUE), NONE);
        rig.growTip(1);
        rig.x.spend(0, 1, 0, 1, 1);
        due("19 shorter", rig.x.octet(62), NONE);
        due("19 shorter's last", rig.x.octet(61), 95);
    }

    private static void promise20Count() {
        byte[] lock = new byte[0];
        Model.Tx first = Rig.first(1, 2, lock, lock, lock);
        Rig rig = new Rig();
        byte[] one = Rig.mined(Rig.ZEROS, 10, 32768, first);
        rig.block(one);
        List<byte[]> held = new ArrayList<>();
        held.add(Rig.mined("11".repeat(32), 10, 32768, first));
        held.add(Rig.mined("12".repeat(32), 10, 32768, first));
        for (byte[] bytes : held) {
            due("20 held", rig.block(bytes), 1000);
        }
        rig.tape(new byte[3]);
        long[] want = {2, 2, 3, 6, 0, one.length, 3};
        for (int what = 0; what < 7; what++) {
            due("20 count " + what, rig.x.count(what), want[what]);
        }
        due("20 below", rig.x.count(-1), REFUSED);
        due("20 above", rig.x.count(7), REFUSED);
        rig.growTip(6);
        rig.pay(Rig.keyed(Rig.payment(1, lock, Rig.coin(first, 0)), open()).bytes);
        due("20 pool", rig.x.count(4), 1);
        due("20 pool pays nothing yet", rig.x.count(3), 6000006);
        due("20 stored", rig.x.count(0), 8);
        due("20 bytes", rig.x.count(5), one.length + 6 * 94);
    }
}

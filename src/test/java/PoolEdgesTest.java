import java.util.Arrays;

/**
 * The pool and promise 6, sentence by sentence: the last case that is within, and the first that is not.
 */
public final class PoolEdgesTest {
    private static final int NONE = -2, FORM = -3, KNOWN = -4, FULL = -5, RULE = -6, HELD = 1000;
    private static final byte[] NO_LOCK = {};
    private static final byte[] OPEN = {102};

    public static void main(String[] args) {
        atMost();
        fullOrWhat();
        inputs();
        bytes();
        justOne();
        knownAndGone();
        tapeIsEmpty();
        locks();
        afters();
        ripe();
        behindThoseBefore();
        staysWithTheTip();
        changesWithTheTip();
        lowestFirst();
        anewAndFull();
        anewAndLong();
        anewAndLower();
        anewAtTheEnd();
        Rig.finish("PoolEdgesTest");
    }

    private static void due(String what, long got, long want) {
        Rig.due(what, got, want);
    }

    private static Model.Tx pays(int value, String... coins) {
        return Rig.keyed(Rig.payment(value, NO_LOCK, coins), OPEN);
    }

    private static Model.Tx fifties() {
        return Rig.first(1, 50, NO_LOCK, NO_LOCK, NO_LOCK, NO_LOCK);
    }

    /** Payments with the fees 1, 2, .. each on what the one before it has left of the coin. */
    private static Model.Tx[] row(Model.Tx from, int value, int n) {
        Model.Tx[] row = new Model.Tx[n];
        Model.Tx last = from;
        int left = value;
        for (int i = 0; i < n; i++) {
            left -= i + 1;
            row[i] = pays(left, Rig.coin(last, 0));
            last = row[i];
        }
        return row;
    }

    private static void feesAre(Rig rig, int... fees) {
        due("how many", rig.x.count(4), fees.length);
        for (int k = 0; k < fees.length; k++) {
            due("fee of " + k, rig.x.pooled(k, 0), fees[k]);
        }
        due("none behind", rig.x.pooled(fees.length, 0), NONE);
    }

    private static int[] upTo(int n) {
        int[] all = new int[n];
        for (int i = 0; i < n; i++) {
            all[i] = i + 1;
        }
        return all;
    }

    private static void atMost() {
        Rig.says("THE POOL has TRANSACTIONS, at most 32, in order");
        Model.Tx coin = Rig.first(1, 5000, NO_LOCK);
        Rig rig = Rig.withCoins(coin);
        Model.Tx[] row = row(coin, 5000, 33);
        due("none", rig.x.count(4), 0);
        for (int i = 0; i < 33; i++) {
            due("payment " + (i + 1), rig.pay(row[i].bytes), i < 32 ? i + 1 : FULL);
            due("how many", rig.x.count(4), Math.min(32, i + 1));
        }
        feesAre(rig, upTo(32));
    }

    private static void fullOrWhat() {
        Rig.says("FORM if it is not just one, or has no INPUTS or more than 1000 bytes; KNOWN if one with its ID is in "
                + "the POOL; FULL if that has 32; RULE if it could not follow there.");
        Model.Tx coin = Rig.first(1, 5000, NO_LOCK);
        Rig rig = Rig.withCoins(coin);
        Model.Tx[] row = row(coin, 5000, 33);
        Model.Tx wrong = pays(1, Rig.coin(fifties(), 0));
        for (int i = 0; i < 31; i++) {
            rig.pay(row[i].bytes);
        }
        due("31: wrong", rig.pay(wrong.bytes), RULE);
        due("31: known", rig.pay(row[30].bytes), KNOWN);
        due("31: known and spent", rig.pay(row[0].bytes), KNOWN);
        due("the last", rig.pay(row[31].bytes), 32);
        due("32: wrong", rig.pay(wrong.bytes), FULL);
        due("32: right", rig.pay(row[32].bytes), FULL);
        due("32: known", rig.pay(row[31].bytes), KNOWN);
        due("32: no inputs", rig.pay(Rig.payment(1, NO_LOCK).bytes), FORM);
        due("32: no payment", rig.pay(Arrays.copyOf(row[31].bytes, 45)), FORM);
        due("32: too long", rig.pay(Rig.longOne(coin, 0, 0, 71, 71, 71).bytes), FORM);
        due("how many", rig.x.count(4), 32);
    }

    private static void inputs() {
        Rig.says("FORM if it is not just one, or has no INPUTS");
        Model.Tx coins = Rig.first(1, 50, new byte[8][0]);
        due("none", Rig.withCoins(coins).pay(Rig.payment(0, NO_LOCK).bytes), FORM);
        String[] all = new String[9];
        for (int i = 0; i < 8; i++) {
            all[i] = Rig.coin(coins, i);
        }
        all[8] = Rig.coin(fifties(), 0);
        due("one", Rig.withCoins(coins).pay(pays(50, all[0]).bytes), 0);
        due("eight", Rig.withCoins(coins).pay(pays(395, Arrays.copyOf(all, 8)).bytes), 5);
        due("nine", Rig.withCoins(coins).pay(pays(400, all).bytes), FORM);
    }

    private static void bytes() {
        Rig.says("or has no INPUTS or more than 1000 bytes");
        Model.Tx most = Rig.longOne(fifties(), 0, 5, 71, 71, 70);
        Model.Tx more = Rig.longOne(fifties(), 0, 5, 71, 71, 71);
        due("bytes", most.bytes.length, 1000);
        Rig rig = Rig.withCoins(fifties());
        due("1001", rig.pay(more.bytes), FORM);
        due("1000", rig.pay(most.bytes), 5);
        due("its bytes", rig.x.pooled(0, 1), 1000);
        // A block may have it all the same.
        Rig.holds("1001 in a block", Rig.stand(fifties(), 5, more));
    }

    private static void justOne() {
        Rig.says("FORM if it is not just one");
        byte[] one = pays(50, Rig.coin(fifties(), 0)).bytes;
        byte[] two = pays(50, Rig.coin(fifties(), 1)).bytes;
        Rig rig = Rig.withCoins(fifties());
        due("nothing", rig.x.pay(), FORM);
        for (int size = 1; size < one.length; size += 4) {
            due("its first " + size, rig.pay(Arrays.copyOf(one, size)), FORM);
        }
        due("without the last byte", rig.pay(Arrays.copyOf(one, one.length - 1)), FORM);
        due("with one more", rig.pay(Arrays.copyOf(one, one.length + 1)), FORM);
        due("two", rig.pay(Model.join(one, two)), FORM);
        due("none came", rig.x.count(4), 0);
        due("one", rig.pay(one), 0);
    }

    private static void knownAndGone() {
        Rig.says("KNOWN if one with its ID is in the POOL");
        Model.Tx a = pays(47, Rig.coin(fifties(), 0));
        Rig rig = Rig.withCoins(fifties());
        due("new", rig.pay(a.bytes), 3);
        due("known", rig.pay(a.bytes), KNOWN);
        Model.Tx other = Rig.keyed(Rig.payment(47, NO_LOCK, Rig.coin(fifties(), 0)), (byte) 1, (byte) 1);
        due("the same but for its key script", rig.pay(other.bytes), RULE);
        due("in a block", rig.grow(-1, 90, 1, true), 8);
        due("no longer in the pool", rig.pay(a.bytes), RULE);
    }

    private static void tapeIsEmpty() {
        Rig.says("The TAPE, which is empty then, comes as a TRANSACTION to the POOL");
        Rig rig = Rig.withCoins(fifties());
        Model.Tx a = pays(47, Rig.coin(fifties(), 0));
        byte[][] coming = {new byte[4096], a.bytes, a.bytes, pays(51, Rig.coin(fifties(), 1)).bytes, {}};
        int[] answers = {FORM, 3, KNOWN, RULE, FORM};
        for (int i = 0; i < coming.length; i++) {
            rig.tape(coming[i]);
            due("answer " + i, rig.x.pay(), answers[i]);
            due("tape behind " + i, rig.x.count(6), 0);
        }
    }

    private static void locks() {
        Rig.says("such as could follow in a BLOCK on the TIP behind those before them");
        for (int lock : new int[] {0, 7, 8, 9, Integer.MAX_VALUE}) {
            Model.Tx tx = pays(50, Rig.coin(fifties(), 0));
            tx.lock = lock;
            due("lock " + lock + " for height 8", Rig.withCoins(fifties()).pay(tx.write()), lock <= 8 ? 0 : RULE);
        }
    }

    private static void afters() {
        Rig.says("fails if the HEIGHT of the BLOCK is below it");
        for (int height : new int[] {0, 7, 8, 9, 127}) {
            Model.Tx tx = Rig.keyed(Rig.payment(50, NO_LOCK, Rig.coin(fifties(), 0)),
                    (byte) 102, (byte) 1, (byte) height, (byte) 96);
            due("after " + height, Rig.withCoins(fifties()).pay(tx.bytes), height <= 8 ? 0 : RULE);
        }
    }

    private static void ripe() {
        Rig.says("those of a first TRANSACTION of HEIGHT g only from h = g + 6 on");
        Rig rig = Rig.withCoins(fifties());
        for (int g = 7; g >= 2; g--) {
            Model.Tx reward = Model.firstTx(g, 1000000, Model.keyLock(1));
            Model.Tx spends = Rig.signed(Rig.payment(1000000, NO_LOCK, Rig.coin(reward, 0)), 1);
            due("reward of " + g + " at height 8", rig.pay(spends.bytes), g == 2 ? 0 : RULE);
        }
    }

    private static void behindThoseBefore() {
        Rig.says("such as could follow in a BLOCK on the TIP behind those before them");
        Rig rig = Rig.withCoins(fifties());
        Model.Tx a = pays(40, Rig.coin(fifties(), 0));
        Model.Tx b = pays(30, Rig.coin(a, 0));
        Model.Tx c = pays(20, Rig.coin(a, 0));
        due("before its coin is there", rig.pay(b.bytes), RULE);
        due("a", rig.pay(a.bytes), 10);
        due("a's coin is spent once", rig.pay(pays(39, Rig.coin(fifties(), 0)).bytes), RULE);
        due("an index that a has not", rig.pay(pays(1, Rig.coin(a, 1)).bytes), RULE);
        due("more than a has left", rig.pay(pays(41, Rig.coin(a, 0)).bytes), RULE);
        due("on a", rig.pay(b.bytes), 10);
        due("on a once more", rig.pay(c.bytes), RULE);
        due("on a and on another", rig.pay(pays(1, Rig.coin(b, 0), Rig.coin(fifties(), 1)).bytes), 79);
        due("one coin twice", rig.pay(pays(1, Rig.coin(fifties(), 2), Rig.coin(fifties(), 2)).bytes), RULE);
        feesAre(rig, 10, 10, 79);
    }

    private static void staysWithTheTip() {
        Rig.says("When the TIP has changed in a call it is made anew at its end");
        Rig rig = Rig.withCoins(fifties());
        Model.Tx a = pays(49, Rig.coin(fifties(), 0));
        due("a", rig.pay(a.bytes), 1);
        due("block 8", rig.grow(-1, 90, 1, false), 8);
        feesAre(rig, 1);
        // A block with a beside the tip, of no more work.
        due("beside it", rig.block(rig.on(7, 91, Rig.first(8, 1, NO_LOCK), a)), 9);
        due("tip", rig.x.tip(1), 8);
        feesAre(rig, 1);
        due("a is known", rig.pay(a.bytes), KNOWN);
        due("on it", rig.grow(9, 101, 1, false), 10);
        due("tip with a", rig.x.tip(1), 10);
        feesAre(rig);
        due("a is spent", rig.pay(a.bytes), RULE);
    }

    /** Whether the new tip comes with block or with send, and whether it leaves blocks behind or not. */
    private static void changesWithTheTip() {
        Rig.says("When the TIP has changed in a call it is made anew at its end");
        Model.Tx a = pays(49, Rig.coin(fifties(), 0));
        Model.Tx b = pays(48, Rig.coin(fifties(), 1));
        Rig sent = Rig.withCoins(fifties());
        due("a", sent.pay(a.bytes), 1);
        due("with a", sent.grow(-1, 90, 1, true), 8);
        feesAre(sent);
        Rig given = Rig.withCoins(fifties());
        due("a again", given.pay(a.bytes), 1);
        due("b", given.pay(b.bytes), 2);
        due("given with a", given.block(given.on(-1, 90, Rig.first(8, 1, NO_LOCK), a)), 8);
        feesAre(given, 2);
        due("beside it", given.block(given.on(7, 91, Rig.first(8, 2, NO_LOCK))), 9);
        feesAre(given, 2);
        due("on that", given.block(given.on(9, 101, Rig.first(9, 2, NO_LOCK), b)), 10);
        feesAre(given, 1);
    }

    private static void lowestFirst() {
        Rig.says("of the BLOCKS of the former TIP's chain that are not in the new one, the lowest first, "
                + "all TRANSACTIONS but the first, then those of the POOL");
        Rig rig = Rig.withCoins(fifties());
        Model.Tx a = pays(49, Rig.coin(fifties(), 0));
        Model.Tx b = pays(48, Rig.coin(fifties(), 1));
        Model.Tx c = pays(46, Rig.coin(a, 0));
        Model.Tx d = pays(46, Rig.coin(fifties(), 2));
        due("a", rig.pay(a.bytes), 1);
        due("b", rig.pay(b.bytes), 2);
        due("block 8", rig.grow(-1, 90, 1, true), 8);
        due("c", rig.pay(c.bytes), 3);
        due("block 9", rig.grow(-1, 100, 1, true), 9);
        due("d", rig.pay(d.bytes), 4);
        feesAre(rig, 4);
        due("beside 8", rig.grow(7, 91, 2, false), 10);
        due("beside 9", rig.grow(10, 101, 2, false), 11);
        due("as much work", rig.x.tip(1), 9);
        feesAre(rig, 4);
        due("more work", rig.grow(11, 111, 2, false), 12);
        due("tip", rig.x.tip(1), 12);
        feesAre(rig, 1, 2, 3, 4);
        // And back, on the former branch.
        due("block 13", rig.grow(9, 102, 1, false), 13);
        due("block 14", rig.grow(13, 112, 1, false), 14);
        due("tip again", rig.x.tip(1), 14);
        feesAre(rig, 4);
    }

    private static void anewAndFull() {
        Rig.says("then those of the POOL, each if it may come as for pay");
        Model.Tx coins = Rig.first(1, 5000, NO_LOCK, NO_LOCK, NO_LOCK);
        Model.Tx[] row = row(coins, 5000, 31);
        Rig rig = Rig.withCoins(coins);
        for (int i = 0; i < 31; i++) {
            due("payment " + i, rig.pay(row[i].bytes), i + 1);
        }
        due("block 8", rig.grow(-1, 90, 1, true), 8);
        due("has all", rig.x.stored(8, 4), 32);
        feesAre(rig);
        due("first", rig.pay(pays(4960, Rig.coin(coins, 1)).bytes), 40);
        due("second", rig.pay(pays(4950, Rig.coin(coins, 2)).bytes), 50);
        due("beside 8", rig.grow(7, 91, 2, false), 9);
        due("on it", rig.grow(9, 101, 2, false), 10);
        due("tip", rig.x.tip(1), 10);
        // 31 that come back, then one of the two that were there.
        int[] fees = Arrays.copyOf(upTo(32), 32);
        fees[31] = 40;
        feesAre(rig, fees);
        due("the other one", rig.pay(pays(4950, Rig.coin(coins, 2)).bytes), FULL);
    }

    private static void anewAndLong() {
        Rig.says("then those of the POOL, each if it may come as for pay");
        for (int more = 0; more <= 1; more++) {
            Model.Tx large = Rig.longOne(fifties(), 0, 5, 71, 71, 70 + more);
            Rig rig = Rig.withCoins(fifties());
            due("block 8", rig.block(rig.on(-1, 90, Rig.first(8, 5, NO_LOCK), large)), 8);
            due("tip 8", rig.x.tip(1), 8);
            due("beside 8", rig.grow(7, 91, 2, false), 9);
            due("on it", rig.grow(9, 101, 2, false), 10);
            due("tip", rig.x.tip(1), 10);
            due("bytes", large.bytes.length, 1000 + more);
            due("comes back", rig.x.count(4), 1 - more);
        }
    }

    private static Model.Tx locked(int lock, int fee, byte... key) {
        Model.Tx tx = Rig.payment(50 - fee, NO_LOCK, Rig.coin(fifties(), fee % 4));
        tx.lock = lock;
        return Rig.keyed(tx, key);
    }

    /** A new tip that has more work may be lower: then what could follow at height 15 is asked for 9. */
    private static void anewAndLower() {
        Rig.says("then those of the POOL, each if it may come as for pay");
        Rig rig = new Rig();
        rig.block(Rig.mined(Rig.ZEROS, 1, 32768, fifties()));
        for (int h = 2; h <= 6; h++) {
            rig.grow(-1, h, 1, false);
        }
        for (int h = 7; h <= 14; h++) {
            rig.grow(-1, 1000 * h, 1, false);
        }
        due("height", rig.x.tip(0), 14);
        due("lock 9", rig.pay(locked(9, 4, OPEN).bytes), 4);
        due("lock 10", rig.pay(locked(10, 5, OPEN).bytes), 5);
        due("after 9", rig.pay(locked(0, 6, (byte) 102, (byte) 1, (byte) 9, (byte) 96).bytes), 6);
        due("after 10", rig.pay(locked(0, 7, (byte) 102, (byte) 1, (byte) 10, (byte) 96).bytes), 7);
        for (int g = 3; g <= 4; g++) {
            Model.Tx reward = Model.firstTx(g, 1000000, Model.keyLock(1));
            Model.Tx spends = Rig.signed(Rig.payment(1000000 - 5 - g, NO_LOCK, Rig.coin(reward, 0)), 1);
            due("reward of " + g, rig.pay(spends.bytes), 5 + g);
        }
        feesAre(rig, 4, 5, 6, 7, 8, 9);
        due("hard 7", rig.grow(6, 7, 2, false), 15);
        feesAre(rig, 4, 5, 6, 7, 8, 9);
        due("hard 8", rig.grow(15, 8, 2, false), 16);
        due("lower", rig.x.tip(0), 8);
        feesAre(rig, 4, 6, 8);
    }

    /** Only the tips at the beginning and at the end of a call count, not those that it goes over. */
    private static void anewAtTheEnd() {
        Rig.says("When the TIP has changed in a call it is made anew at its end");
        Rig rig = Rig.withCoins(fifties());
        Model.Tx a = pays(49, Rig.coin(fifties(), 0));
        Model.Tx rival = pays(30, Rig.coin(fifties(), 0));
        Model.Tx other = pays(20, Rig.coin(fifties(), 1));
        due("a", rig.pay(a.bytes), 1);
        Rig maker = Rig.withCoins(fifties());
        byte[] eight = maker.on(-1, 90, Rig.first(8, 1, NO_LOCK));
        maker.block(eight);
        byte[] nine = maker.on(8, 100, Rig.first(9, 1, NO_LOCK), rival, other);
        byte[] beside = maker.on(8, 101, Rig.first(9, 2, NO_LOCK));
        maker.block(beside);
        byte[] ten = maker.on(9, 110, Rig.first(10, 1, NO_LOCK));
        due("nine", rig.block(nine), HELD);
        due("beside nine", rig.block(beside), HELD);
        due("ten", rig.block(ten), HELD);
        due("eight", rig.block(eight), 8);
        due("stored", rig.x.count(0), 12);
        due("tip", rig.x.tip(1), 11);
        due("not by nine", rig.x.stored(9, 5), 0);
        feesAre(rig, 1);
    }
}

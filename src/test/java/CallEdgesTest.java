import java.util.Arrays;

/**
 * The promises, sentence by sentence: the last argument or state that is within, and the first that is not.
 * Promise 6 has a test of its own, PoolEdgesTest.
 */
public final class CallEdgesTest {
    private static final int REFUSED = -1, NONE = -2, FORM = -3, KNOWN = -4, FULL = -5, RULE = -6, HELD = 1000;
    private static final int HIGHEST = Integer.MAX_VALUE, LOWEST = Integer.MIN_VALUE;
    private static final byte[] NO_LOCK = {};
    private static final byte[] OPEN = {102};

    public static void main(String[] args) {
        blockZero();
        feed();
        end();
        alterPlaces();
        alterValues();
        blockAnswers();
        blockEmptiesTape();
        blockOrder();
        draftParents();
        draftTimes();
        draftKeys();
        draftPool();
        draftThirtyTwo();
        draftBytes();
        mineTimes();
        mineEnough();
        mineOnlyDrafts();
        spendInputs();
        spendCoins();
        spendValues();
        spendRest();
        signInputs();
        signOnlySpends();
        scriptPlaces();
        scriptBytes();
        scriptOnlySpends();
        sendEmpty();
        sendStays();
        back();
        tip();
        stored();
        coin();
        coinOrder();
        coinOfOthers();
        balance();
        pooled();
        octet();
        count();
        Rig.finish("CallEdgesTest");
    }

    private static void due(String what, long got, long want) {
        Rig.due(what, got, want);
    }

    private static Rig grown(int n) {
        Rig rig = new Rig();
        rig.growTip(n);
        return rig;
    }

    private static Model.Tx fifties() {
        return Rig.first(1, 50, NO_LOCK, NO_LOCK, NO_LOCK, NO_LOCK);
    }

    private static Model.Tx pays(int value, String... coins) {
        return Rig.keyed(Rig.payment(value, NO_LOCK, coins), OPEN);
    }

    private static void outIs(String what, Rig rig, byte[] want) {
        Rig.holds(what, Arrays.equals(rig.out(), want));
    }

    private static void blockZero() {
        Rig.says("At first there is BLOCK 0: HEIGHT 0, ID 32 zeros, TIME 0, TARGET 32768, no WORK, no TRANSACTIONS.");
        Rig rig = new Rig();
        int[] block = {0, NONE, 0, 32768, 0, 1};
        for (int what = 0; what < block.length; what++) {
            due("stored(0, " + what + ")", rig.x.stored(0, what), block[what]);
        }
        for (int what = 0; what < 4; what++) {
            due("tip(" + what + ")", rig.x.tip(what), 0);
        }
        rig.x.draft(0, 1, 1, false);
        for (int i = 0; i < 32; i++) {
            due("byte " + i + " of a child's parent", rig.x.octet(i), 0);
        }
        Rig.says("`ChainLedger()`: BLOCK 0 alone.");
        Rig alone = new Rig();
        long[] counts = {1, 0, 0, 0, 0, 0, 0};
        for (int what = 0; what < counts.length; what++) {
            due("count(" + what + ")", alone.x.count(what), counts[what]);
        }
        due("stored(1, 0)", alone.x.stored(1, 0), NONE);
        due("coin(0, 0)", alone.x.coin(0, 0), NONE);
        due("pooled(0, 0)", alone.x.pooled(0, 0), NONE);
        due("octet(-1)", alone.x.octet(-1), 0);
    }

    private static void feed() {
        Rig.says("how many it has; FULL if it would have more than 4096");
        Rig rig = new Rig();
        due("first", rig.x.feed(1, 2, 3, 4, 5), 20);
        for (int n = 2; n <= 204; n++) {
            rig.x.feed(n, n, n, n, n);
        }
        due("4080", rig.x.count(6), 4080);
        due("4100", rig.x.feed(0, 0, 0, 0, 0), FULL);
        rig.x.end(4077);
        due("4097", rig.x.feed(-1, -1, -1, -1, -1), FULL);
        due("stays", rig.x.count(6), 4077);
        due("last byte stays", rig.x.alter(4076, 0), 0);
        rig.x.end(4076);
        due("4096", rig.x.feed(-1, -1, -1, -1, 0x01020304), 4096);
        due("first byte of it", rig.x.alter(4076, 0), 255);
        due("last byte of it", rig.x.alter(4095, 0), 4);
        due("byte behind", rig.x.alter(4096, 0), REFUSED);
        Rig.says("Twenty bytes, five times four, the highest of each first, come to the TAPE");
        Rig bytes = new Rig();
        bytes.x.feed(0x01020304, LOWEST, HIGHEST, -1, 0xfe000080);
        int[] want = {1, 2, 3, 4, 128, 0, 0, 0, 127, 255, 255, 255, 255, 255, 255, 255, 254, 0, 0, 128};
        for (int i = 0; i < 20; i++) {
            due("byte " + i, bytes.x.alter(i, 0), want[i]);
        }
    }

    private static void end() {
        Rig.says("The TAPE is cut to its first n bytes: n; REFUSED if it has less, or n is below 0.");
        Rig rig = new Rig();
        due("empty, 0", rig.x.end(0), 0);
        due("empty, 1", rig.x.end(1), REFUSED);
        due("empty, -1", rig.x.end(-1), REFUSED);
        rig.x.feed(0x01020304, 0, 0, 0, 5);
        for (int n : new int[] {21, HIGHEST, -1, LOWEST}) {
            due("20, " + n, rig.x.end(n), REFUSED);
            due("stays", rig.x.count(6), 20);
        }
        due("20, 20", rig.x.end(20), 20);
        due("20, 19", rig.x.end(19), 19);
        due("19, 20", rig.x.end(20), REFUSED);
        due("19, 4", rig.x.end(4), 4);
        due("its first bytes", rig.x.alter(3, 0), 4);
        due("4, 0", rig.x.end(0), 0);
        due("none", rig.x.count(6), 0);
    }

    private static void alterPlaces() {
        Rig.says("Byte i (0 the first) of the TAPE becomes value (0 to 255): what it was. REFUSED for others.");
        Rig rig = new Rig();
        due("empty, 0", rig.x.alter(0, 0), REFUSED);
        due("empty, -1", rig.x.alter(-1, 0), REFUSED);
        rig.x.feed(0x07000000, 0, 0, 0, 9);
        due("0", rig.x.alter(0, 1), 7);
        due("19", rig.x.alter(19, 2), 9);
        for (int i : new int[] {-1, 20, LOWEST, HIGHEST}) {
            due("" + i, rig.x.alter(i, 5), REFUSED);
        }
        due("size stays", rig.x.count(6), 20);
        rig.x.end(19);
        due("19 of 19", rig.x.alter(19, 5), REFUSED);
        due("18 of 19", rig.x.alter(18, 5), 0);
    }

    private static void alterValues() {
        Rig.says("Byte i (0 the first) of the TAPE becomes value (0 to 255): what it was. REFUSED for others.");
        Rig rig = new Rig();
        rig.x.feed(0, 0, 0, 0, 0);
        int last = 0;
        for (int value : new int[] {0, 1, 127, 128, 254, 255}) {
            due("" + value, rig.x.alter(3, value), last);
            last = value;
        }
        for (int value : new int[] {-1, 256, LOWEST, HIGHEST}) {
            due("" + value, rig.x.alter(3, value), REFUSED);
        }
        due("stays", rig.x.alter(3, 0), 255);
    }

    private static void blockAnswers() {
        Rig.says("FORM if it is not WELL FORMED; KNOWN if one with its ID is STORED or HELD");
        byte[] one = Rig.mined(Rig.ZEROS, 10, 32768, fifties());
        byte[] two = Rig.mined(Rig.id(one), 20, 32768, Rig.first(2, 1, NO_LOCK));
        Rig rig = new Rig();
        due("empty", rig.x.block(), FORM);
        due("two is held", rig.block(two), HELD);
        due("known as held", rig.block(two), KNOWN);
        due("one is stored", rig.block(one), 1);
        due("known as stored", rig.block(one), KNOWN);
        due("known as stored by now", rig.block(two), KNOWN);
        byte[] other = one.clone();
        other[80] ^= 1;
        due("the id of a known one, but not its payment", rig.block(other), FORM);
        due("stored", rig.x.count(0), 3);
    }

    private static void blockEmptiesTape() {
        Rig.says("The TAPE, which is empty then, comes as a BLOCK.");
        byte[] one = Rig.mined(Rig.ZEROS, 10, 32768, fifties());
        byte[][] coming = {{}, new byte[4096], one, one, Rig.mined(Rig.id(one), 10, 32768, fifties()),
            Rig.mined("12".repeat(32), 10, 32768, fifties())};
        int[] answers = {FORM, FORM, 1, KNOWN, RULE, HELD};
        Rig rig = new Rig();
        for (int i = 0; i < coming.length; i++) {
            rig.tape(coming[i]);
            due("block " + i, rig.x.block(), answers[i]);
            due("tape behind " + i, rig.x.count(6), 0);
        }
    }

    private static void blockOrder() {
        Rig.says("if its parent is STORED: RULE if it does not follow the RULES, FULL if there is no room, "
                + "else it is STORED: its number; if not: FULL, or it is HELD: 1000.");
        // What no parent allows is held all the same, as long as its parent is not there.
        Rig rig = new Rig();
        due("time 0 and another target", rig.block(Rig.mined("12".repeat(32), 0, 99, fifties())), HELD);
        due("on block 0", rig.block(Rig.mined(Rig.ZEROS, 0, 99, fifties())), RULE);
        due("not stored", rig.x.count(0), 1);
        due("again, as it is not known", rig.block(Rig.mined(Rig.ZEROS, 0, 99, fifties())), RULE);
        for (int i = 1; i < 16; i++) {
            due("held " + i, rig.block(Rig.mined("12".repeat(32), i, 32768, fifties())), HELD);
        }
        due("held 16", rig.block(Rig.mined("12".repeat(32), 16, 32768, fifties())), FULL);
        due("rule, with all held", rig.block(Rig.mined(Rig.ZEROS, 0, 99, fifties())), RULE);
        due("form, with all held", rig.block(new byte[20]), FORM);
        due("stored, with all held", rig.block(Rig.mined(Rig.ZEROS, 16, 32768, fifties())), 1);
    }

    private static void draftParents() {
        Rig.says("REFUSED if there is no such BLOCK, or time is below 0.");
        Rig rig = new Rig();
        due("0 of one", rig.x.draft(0, 5, 1, false), 94);
        due("1 of one", rig.x.draft(1, 5, 1, false), REFUSED);
        Rig three = grown(3);
        for (int parent : new int[] {-1, 0, 1, 2, 3}) {
            due("" + parent, three.x.draft(parent, 50, 1, false), 94);
            due("height on " + parent, three.outNumber(77), parent == -1 ? 4 : parent + 1);
        }
        byte[] out = three.out();
        for (int parent : new int[] {-2, 4, 1000, LOWEST, HIGHEST}) {
            due("" + parent, three.x.draft(parent, 50, 2, false), REFUSED);
        }
        outIs("out stays", three, out);
        // A held one has no number.
        due("held", three.block(Rig.mined("12".repeat(32), 1, 32768, fifties())), HELD);
        due("1000", three.x.draft(1000, 50, 1, false), REFUSED);
        due("4", three.x.draft(4, 50, 1, false), REFUSED);
    }

    private static void draftTimes() {
        Rig.says("REFUSED if there is no such BLOCK, or time is below 0.");
        Rig rig = grown(2);
        due("0", rig.x.draft(-1, 0, 1, false), 94);
        due("stands there", rig.outNumber(64), 0);
        due("highest", rig.x.draft(-1, HIGHEST, 1, false), 94);
        due("stands there", rig.outNumber(64), HIGHEST);
        byte[] out = rig.out();
        due("-1", rig.x.draft(-1, -1, 1, false), REFUSED);
        due("lowest", rig.x.draft(0, LOWEST, 1, false), REFUSED);
        outIs("out stays", rig, out);
        due("nothing came", rig.x.count(0), 3);
    }

    private static void draftKeys() {
        Rig.says("has the LOCK SCRIPT 4, key (4 bytes), 95");
        for (int key : new int[] {0, 1, 0x01020304, HIGHEST, LOWEST, -1}) {
            Rig rig = new Rig();
            rig.x.draft(0, 7, key, true);
            outIs("key " + key, rig, Model.blockBytes(new Model.Node(), 7, 32768, 0,
                    java.util.List.of(Model.firstTx(1, 1000000, Model.keyLock(key)))));
        }
    }

    private static void draftPool() {
        Rig.says("behind it, if pool is true and the parent is the TIP, those of the POOL");
        Rig rig = Rig.withCoins(fifties());
        Model.Tx a = pays(43, Rig.coin(fifties(), 0));
        rig.pay(a.bytes);
        due("on the tip", rig.x.draft(-1, 100, 1, true), 94 + a.bytes.length);
        due("with its fee", rig.outNumber(83), 1000007);
        due("on its number", rig.x.draft(7, 100, 1, true), 94 + a.bytes.length);
        due("not asked for", rig.x.draft(-1, 100, 1, false), 94);
        due("without its fee", rig.outNumber(83), 1000000);
        due("on its parent", rig.x.draft(6, 100, 1, true), 94);
        due("without its fee there", rig.outNumber(83), 1000000);
        due("stays in the pool", rig.x.count(4), 1);
    }

    private static void draftThirtyTwo() {
        Rig.says("up to the first one with which it would have more than 32 or more than 4096 bytes");
        Model.Tx coin = Rig.first(1, 5000, NO_LOCK);
        Rig rig = Rig.withCoins(coin);
        Model.Tx last = coin;
        for (int i = 1; i <= 32; i++) {
            last = pays(5000 - i, Rig.coin(last, 0));
            due("payment " + i, rig.pay(last.bytes), 1);
            if (i >= 30) {
                int fit = Math.min(31, i);
                due("with " + i, rig.x.draft(-1, 100, 1, true), 94 + fit * last.bytes.length);
                due("count", rig.x.octet(76), fit + 1);
                due("fees", rig.outNumber(83), 1000000 + fit);
            }
        }
        due("well formed", rig.x.mine(2000) >= 0 ? 1 : 0, 1);
        due("stored", rig.x.send(), 8);
        due("one is left", rig.x.count(4), 1);
    }

    private static void draftBytes() {
        Rig.says("up to the first one with which it would have more than 32 or more than 4096 bytes");
        Model.Tx coins = Rig.first(1, 50, new byte[7][0]);
        for (int more = 0; more <= 1; more++) {
            Rig rig = Rig.withCoins(coins);
            for (int i = 0; i < 4; i++) {
                due("payment of 797", rig.pay(Rig.longOne(coins, i, 1, 77).bytes), 1);
            }
            due("payment that fills", rig.pay(Rig.longOne(coins, 4, 2, 30, 30 + more).bytes), 2);
            due("a short one", rig.pay(pays(46, Rig.coin(coins, 6)).bytes), 4);
            // The short one would fit, but it stands behind the one that does not.
            due("4096 and " + more, rig.x.draft(-1, 100, 1, true), more == 0 ? 4096 : 94 + 4 * 797);
            due("fees", rig.outNumber(83), more == 0 ? 1000006 : 1000004);
            while (rig.x.mine(2000) < 0) {
                // Not enough yet.
            }
            due("sent", rig.x.send(), 8);
            due("left in the pool", rig.x.count(4), more == 0 ? 1 : 2);
        }
    }

    private static void mineTimes() {
        Rig.says("at most n times (1 to 2000)");
        Rig rig = new Rig();
        rig.x.draft(0, 5, 1, false);
        byte[] out = rig.out();
        for (int n : new int[] {0, -1, 2001, LOWEST, HIGHEST}) {
            due("" + n, rig.x.mine(n), REFUSED);
        }
        outIs("out stays", rig, out);
        int grows = 0;
        while (Model.leading(out) >= 32768) {
            grows++;
            Model.setNonce(out, grows);
        }
        due("2000", rig.x.mine(2000), grows);
        outIs("grown", rig, out);
        due("1, but it is mined", rig.x.mine(1), 0);
    }

    /** The time of a draft on block 0 that must grow so often. */
    private static int timeThatNeeds(int grows) {
        Model.Tx first = Model.firstTx(1, 1000000, Model.keyLock(1));
        for (int time = 1; ; time++) {
            byte[] block = Model.blockBytes(new Model.Node(), time, 32768, 0, java.util.List.of(first));
            int n = 0;
            while (Model.leading(block) >= 32768) {
                n++;
                Model.setNonce(block, n);
            }
            if (n == grows) {
                return time;
            }
        }
    }

    private static void mineEnough() {
        Rig.says("how often; NONE if that is not enough (it has grown n times then)");
        for (int needed = 0; needed <= 5; needed++) {
            int time = timeThatNeeds(needed);
            for (int n = 1; n <= 7; n++) {
                Rig rig = new Rig();
                rig.x.draft(0, time, 1, false);
                due(n + " for " + needed, rig.x.mine(n), n < needed ? NONE : needed);
                due("nonce", rig.outNumber(72), Math.min(n, needed));
                due("then", rig.x.send(), n < needed ? FORM : 1);
                due("what is missing", rig.x.mine(2000), Math.max(0, needed - n));
            }
        }
        // An id that begins with the target itself is not below it; with one less it is.
        due("at the target", growsFrom(32768) > 0 ? 1 : 0, 1);
        due("just below it", growsFrom(32767), 0);
    }

    /** How often a draft on block 0 grows whose id begins with these two bytes. */
    private static int growsFrom(int leading) {
        Model.Tx first = Model.firstTx(1, 1000000, Model.keyLock(1));
        int time = 1;
        while (Model.leading(Model.blockBytes(new Model.Node(), time, 32768, 0, java.util.List.of(first))) != leading) {
            time++;
        }
        Rig rig = new Rig();
        rig.x.draft(0, time, 1, false);
        return rig.x.mine(2000);
    }

    private static void mineOnlyDrafts() {
        Rig.says("REFUSED for other n, or if OUT is no BLOCK that draft has made.");
        Rig rig = new Rig();
        due("empty", rig.x.mine(1), REFUSED);
        rig.growTip(1);
        due("a block", rig.x.mine(1), 0);
        rig.x.spend(0, 1, 1, 1, 1);
        due("a payment", rig.x.mine(1), REFUSED);
        due("stays", rig.x.octet(-1), 62);
        rig.x.draft(-1, 90, 1, false);
        due("refused spend leaves the block", rig.x.spend(0, 9, 1, 1, 1), REFUSED);
        due("a block again", rig.x.mine(2000) >= 0 ? 1 : 0, 1);
    }

    private static void spendInputs() {
        Rig.says("n (1 to 8) INPUTS, COINS k, k + 1, .. in their order");
        Rig rig = grown(10);
        for (int n = 1; n <= 8; n++) {
            due("" + n, rig.x.spend(1, n, 1, 5, 5), 28 + 34 * n);
            due("inputs", rig.x.octet(4), n);
            for (int i = 0; i < n; i++) {
                int at = 5 + 34 * i;
                due("coin " + i, rig.x.octet(at) << 8 | rig.x.octet(at + 1), rig.x.coin(1 + i, 5));
                due("index " + i, rig.x.octet(at + 32), rig.x.coin(1 + i, 2));
                due("key script " + i, rig.x.octet(at + 33), 0);
            }
        }
        byte[] out = rig.out();
        for (int n : new int[] {0, 9, -1, LOWEST, HIGHEST}) {
            due("" + n, rig.x.spend(0, n, 1, 0, 0), REFUSED);
        }
        outIs("out stays", rig, out);
    }

    private static void spendCoins() {
        Rig.says("if there are no such COINS");
        due("none", new Rig().x.spend(0, 1, 1, 0, 0), REFUSED);
        Rig rig = grown(9);
        due("0 to 7", rig.x.spend(0, 8, 1, 0, 0), 300);
        due("1 to 8", rig.x.spend(1, 8, 1, 0, 0), 300);
        due("2 to 9", rig.x.spend(2, 8, 1, 0, 0), REFUSED);
        due("8", rig.x.spend(8, 1, 1, 0, 0), 62);
        due("9", rig.x.spend(9, 1, 1, 0, 0), REFUSED);
        due("8 and 9", rig.x.spend(8, 2, 1, 0, 0), REFUSED);
        for (int k : new int[] {-1, -2, LOWEST, HIGHEST, HIGHEST - 7}) {
            due("" + k, rig.x.spend(k, 1, 1, 0, 0), REFUSED);
            due(k + " and seven more", rig.x.spend(k, 8, 1, 0, 0), REFUSED);
        }
        due("out stays", rig.x.octet(-1), 62);
    }

    private static void spendValues() {
        Rig.says("value or fee is below 0, or both are more than the INPUTS");
        Rig rig = grown(2);
        int[][] within = {{0, 0}, {1000000, 0}, {0, 1000000}, {999999, 1}, {1, 999999}};
        for (int[] c : within) {
            Rig.holds("value " + c[0] + " fee " + c[1], rig.x.spend(0, 1, 1, c[0], c[1]) > 0);
        }
        byte[] out = rig.out();
        int[][] beyond = {{-1, 0}, {0, -1}, {-1, -1}, {1000001, 0}, {0, 1000001}, {999999, 2}, {1000000, 1}, {LOWEST, 0},
            {0, LOWEST}, {HIGHEST, 0}, {0, HIGHEST}, {HIGHEST, HIGHEST}, {HIGHEST, 1}, {1, HIGHEST}, {LOWEST, LOWEST},
            {-1, 1000000}, {1000001, -1}};
        for (int[] c : beyond) {
            due("value " + c[0] + " fee " + c[1], rig.x.spend(0, 1, 1, c[0], c[1]), REFUSED);
        }
        outIs("out stays", rig, out);
        Rig.holds("all of two", rig.x.spend(0, 2, 1, 1999999, 1) > 0);
        due("more than two", rig.x.spend(0, 2, 1, 2000000, 1), REFUSED);
    }

    private static void spendRest() {
        Rig.says("if more than fee is left of the INPUTS without it, another one of all that but fee, with key 0");
        Rig rig = grown(1);
        int[][] cases = {{1000000, 0, 0}, {999999, 0, 1}, {999999, 1, 0}, {999998, 1, 1}, {0, 1000000, 0}, {0, 999999, 1},
            {0, 0, 1000000}, {5, 7, 999988}};
        for (int[] c : cases) {
            String what = "value " + c[0] + " fee " + c[1] + ": ";
            due(what + "bytes", rig.x.spend(0, 1, 9, c[0], c[1]), c[2] > 0 ? 62 : 51);
            Model.Tx tx = Model.readTx(rig.out());
            due(what + "lock", tx.lock, 0);
            due(what + "outputs", tx.outs.size(), c[2] > 0 ? 2 : 1);
            due(what + "value", tx.outs.get(0).value, c[0]);
            Rig.holds(what + "key", Arrays.equals(tx.outs.get(0).lock, Model.keyLock(9)));
            if (c[2] > 0) {
                due(what + "rest", tx.outs.get(1).value, c[2]);
                Rig.holds(what + "key 0", Arrays.equals(tx.outs.get(1).lock, Model.keyLock(0)));
            }
        }
    }

    private static void signInputs() {
        Rig.says("has the KEY SCRIPT 8 and the SIGNATURE of key (4 bytes) then: its bytes. REFUSED if there is none");
        Rig rig = grown(9);
        for (int n : new int[] {1, 8}) {
            rig.x.spend(0, n, 1, 5, 5);
            byte[] signHash = Model.readTx(rig.out()).signHash();
            int[] keys = {0, -1, 1, HIGHEST, LOWEST, 5, 6, 7};
            for (int i = 0; i < n; i++) {
                due("input " + i, rig.x.sign(i, keys[i]), 28 + 34 * n + 9 * (i + 1));
            }
            Model.Tx tx = Model.readTx(rig.out());
            for (int i = 0; i < n; i++) {
                Rig.holds("signature " + i,
                        Arrays.equals(tx.ins.get(i).key, Maker.pushSignature(Model.number(keys[i]), signHash)));
            }
            byte[] out = rig.out();
            for (int i : new int[] {-1, n, n + 1, LOWEST, HIGHEST}) {
                due("input " + i, rig.x.sign(i, 1), REFUSED);
            }
            outIs("out stays", rig, out);
            due("once more", rig.x.sign(n - 1, 1), out.length);
        }
    }

    private static void signOnlySpends() {
        Rig.says("INPUT i of OUT, a TRANSACTION that spend has made");
        Rig rig = new Rig();
        due("empty", rig.x.sign(0, 1), REFUSED);
        due("stays empty", rig.x.octet(-1), 0);
        rig.growTip(1);
        byte[] out = rig.out();
        due("a block", rig.x.sign(0, 1), REFUSED);
        outIs("out stays", rig, out);
        // The longest that can be made is far from 4096.
        Rig longest = grown(8);
        longest.x.spend(0, 8, 1, 5, 5);
        for (int i = 0; i < 8; i++) {
            longest.tape(new byte[80]);
            longest.x.script(i);
        }
        longest.tape(new byte[80]);
        due("longest", longest.x.script(-1), 300 + 8 * 80 + 74);
        due("signed", longest.x.sign(7, 1), 300 + 7 * 80 + 9 + 74);
    }

    private static void scriptPlaces() {
        Rig.says("REFUSED if there is none, or the TAPE has more (it stays then).");
        Rig rig = grown(9);
        for (int n : new int[] {1, 2, 8}) {
            for (int which : new int[] {-2, -1, 0, n - 1, n, 7, 8, LOWEST, HIGHEST}) {
                rig.x.spend(0, n, 1, 5, 5);
                rig.tape(Model.bytes(1, 2, 3));
                boolean there = which >= -1 && which < n;
                int bytes = 28 + 34 * n;
                due(which + " of " + n, rig.x.script(which), !there ? REFUSED : which == -1 ? bytes - 3 : bytes + 3);
                due("tape", rig.x.count(6), there ? 0 : 3);
                due("out", rig.x.octet(-1), !there ? bytes : which == -1 ? bytes - 3 : bytes + 3);
            }
        }
    }

    private static void scriptBytes() {
        Rig.says("Which -1: the TAPE (0 to 80 bytes), which is empty then, becomes the LOCK SCRIPT of the first OUTPUT");
        byte[] longest = new byte[81];
        for (int i = 0; i < 81; i++) {
            longest[i] = (byte) (255 - i);
        }
        for (int size : new int[] {0, 1, 79, 80, 81, 100, 4096}) {
            for (int which = -1; which <= 1; which++) {
                Rig rig = grown(2);
                rig.x.spend(0, 2, 1, 5, 5);
                byte[] before = rig.out();
                byte[] script = Arrays.copyOf(longest, size);
                rig.tape(script);
                String what = size + " bytes to " + which;
                int bytes = which == -1 ? 96 - 6 + size : 96 + size;
                due(what, rig.x.script(which), size <= 80 ? bytes : REFUSED);
                due(what + ", tape", rig.x.count(6), size <= 80 ? 0 : size);
                if (size > 80) {
                    outIs(what + ", out stays", rig, before);
                } else {
                    Model.Tx tx = Model.readTx(rig.out());
                    byte[] there = which == -1 ? tx.outs.get(0).lock : tx.ins.get(which).key;
                    Rig.holds(what + ", stands there", Arrays.equals(there, script));
                    Rig.holds(what + ", the rest stays", Arrays.equals(tx.outs.get(1).lock, Model.keyLock(0)));
                    due(what + ", empty again", rig.x.script(which), which == -1 ? 90 : 96);
                }
            }
        }
    }

    private static void scriptOnlySpends() {
        Rig.says("of OUT, a TRANSACTION that spend has made; 0 to 7: the KEY SCRIPT of this INPUT");
        Rig rig = new Rig();
        rig.tape(new byte[7]);
        due("empty", rig.x.script(-1), REFUSED);
        due("empty, input 0", rig.x.script(0), REFUSED);
        due("tape stays", rig.x.count(6), 7);
        rig.growTip(1);
        byte[] out = rig.out();
        due("a block", rig.x.script(-1), REFUSED);
        due("a block, input 0", rig.x.script(0), REFUSED);
        due("tape stays still", rig.x.count(6), 7);
        outIs("out stays", rig, out);
    }

    private static void sendEmpty() {
        Rig.says("REFUSED if OUT is empty.");
        Rig rig = new Rig();
        due("empty", rig.x.send(), REFUSED);
        due("refused draft", rig.x.draft(1, 1, 1, false), REFUSED);
        due("still empty", rig.x.send(), REFUSED);
        rig.x.draft(0, timeThatNeeds(0), 1, false);
        due("a block", rig.x.send(), 1);
        rig.x.spend(0, 1, 1, 0, 0);
        due("a payment", rig.x.send(), RULE);
    }

    private static void sendStays() {
        Rig.says("OUT, which stays, comes as a BLOCK (see block) if draft has made it, or as a TRANSACTION (see pay) "
                + "if spend has; the TAPE stays.");
        Rig rig = new Rig();
        rig.tape(new byte[9]);
        int[] answers = {FORM, 1, KNOWN};
        rig.x.draft(0, timeThatNeeds(1), 1, false);
        for (int i = 0; i < answers.length; i++) {
            byte[] out = rig.out();
            due("block " + i, rig.x.send(), answers[i]);
            outIs("out stays " + i, rig, out);
            due("tape stays " + i, rig.x.count(6), 9);
            rig.x.mine(2000);
        }
        rig.x.draft(0, 0, 1, false);
        rig.x.mine(2000);
        due("rule", rig.x.send(), RULE);
        rig.growTip(6);
        Model.Tx reward = Model.firstTx(1, 1000000, Model.keyLock(1));
        int k = 0;
        while (rig.x.coin(k, 1) != 1) {
            k++;
        }
        due("coin", rig.x.coin(k, 5), Integer.parseInt(reward.id().substring(0, 4), 16));
        rig.x.spend(k, 1, 2, 10, 3);
        due("not signed", rig.x.send(), RULE);
        rig.x.sign(0, 1);
        byte[] out = rig.out();
        due("signed", rig.x.send(), 3);
        due("again", rig.x.send(), KNOWN);
        outIs("out stays", rig, out);
        due("tape stays", rig.x.count(6), 9);
    }

    private static void back() {
        Rig.says("The TAPE becomes what OUT is, which stays: its bytes.");
        Rig rig = new Rig();
        due("both empty", rig.x.back(), 0);
        rig.tape(new byte[9]);
        due("out is empty", rig.x.back(), 0);
        due("tape is empty", rig.x.count(6), 0);
        rig.x.draft(0, 255, -1, false);
        for (int size : new int[] {0, 93, 94, 95, 4096}) {
            rig.tape(new byte[size]);
            due("behind " + size, rig.x.back(), 94);
            due("tape", rig.x.count(6), 94);
        }
        byte[] out = rig.out();
        for (int i = 0; i < 94; i++) {
            due("byte " + i, rig.x.alter(i, 9), out[i] & 255);
        }
        outIs("out stays", rig, out);
    }

    private static void tip() {
        Rig.says("as a number of 32 bits without a sign. REFUSED for others.");
        for (int n : new int[] {0, 3}) {
            Rig rig = grown(n);
            for (int what : new int[] {-1, 4, LOWEST, HIGHEST}) {
                due("tip(" + what + ")", rig.x.tip(what), REFUSED);
            }
            due("height", rig.x.tip(0), n);
            due("number", rig.x.tip(1), n);
            due("work", rig.x.tip(2), 512 * n);
        }
        // Ids with and without the highest bit: with a higher target both kinds come.
        Rig rig = new Rig();
        int high = 0;
        int low = 0;
        for (int i = 1; i <= 30; i++) {
            rig.grow(-1, 100 * i, 1, false);
            long id = Long.parseLong(Rig.id(rig.out()).substring(0, 8), 16);
            due("id of " + i, rig.x.tip(3), id);
            high += id >= 1L << 31 ? 1 : 0;
            low += id < 1L << 31 ? 1 : 0;
        }
        Rig.holds("both kinds", high > 0 && low > 0);
    }

    private static void stored() {
        Rig.says("NONE if there is none; REFUSED for another what, first.");
        Rig rig = grown(3);
        for (int what : new int[] {-1, 6, LOWEST, HIGHEST}) {
            for (int n : new int[] {-1, 0, 3, 4}) {
                due("stored(" + n + ", " + what + ")", rig.x.stored(n, what), REFUSED);
            }
        }
        for (int what = 0; what <= 5; what++) {
            for (int n : new int[] {-1, 4, 1000, LOWEST, HIGHEST}) {
                due("stored(" + n + ", " + what + ")", rig.x.stored(n, what), NONE);
            }
        }
        Rig.says("1: the number of its parent (NONE for BLOCK 0)");
        due("of 0", rig.x.stored(0, 1), NONE);
        due("of 1", rig.x.stored(1, 1), 0);
        due("of 3", rig.x.stored(3, 1), 2);
        Rig.says("5: 1 if it is the TIP or an ancestor of it, else 0");
        due("beside 3", rig.grow(2, 31, 2, false), 4);
        int[] follows = {1, 1, 1, 1, 0};
        for (int n = 0; n < 5; n++) {
            due("block " + n, rig.x.stored(n, 5), follows[n]);
        }
    }

    private static void coin() {
        Rig.says("NONE if there is none; REFUSED for another what, first.");
        for (int coins : new int[] {0, 3}) {
            Rig rig = grown(coins);
            for (int what : new int[] {-1, 6, LOWEST, HIGHEST}) {
                for (int k : new int[] {-1, 0, 2, 3}) {
                    due("coin(" + k + ", " + what + ")", rig.x.coin(k, what), REFUSED);
                }
            }
            for (int what = 0; what <= 5; what++) {
                for (int k : new int[] {-1, coins, coins + 1, LOWEST, HIGHEST}) {
                    due("coin(" + k + ", " + what + ")", rig.x.coin(k, what), NONE);
                }
                Rig.holds("last coin", coins == 0 || rig.x.coin(coins - 1, what) >= 0);
            }
        }
    }

    private static void coinOrder() {
        Rig.says("in the order of the IDs (byte by byte, 0 to 255) and INDEXES");
        byte[][] locks = new byte[8][];
        for (int i = 0; i < 8; i++) {
            locks[i] = new byte[i == 7 ? 80 : i];
        }
        Model.Tx first = Rig.first(1, 50, locks);
        Rig rig = new Rig();
        rig.block(Rig.mined(Rig.ZEROS, 10, 32768, first));
        rig.growTip(29);
        java.util.TreeMap<String, int[]> all = new java.util.TreeMap<>();
        for (int i = 0; i < 8; i++) {
            all.put(Rig.coin(first, i), new int[] {50, 1, i, 1, locks[i].length});
        }
        for (int h = 2; h <= 30; h++) {
            int reward = h < 16 ? 1000000 : 500000;
            all.put(Rig.coin(Model.firstTx(h, reward, Model.keyLock(1)), 0), new int[] {reward, h, 0, 1, 6});
        }
        int k = 0;
        for (java.util.Map.Entry<String, int[]> e : all.entrySet()) {
            for (int what = 0; what < 5; what++) {
                due("coin(" + k + ", " + what + ")", rig.x.coin(k, what), e.getValue()[what]);
            }
            due("coin(" + k + ", 5)", rig.x.coin(k, 5), Integer.parseInt(e.getKey().substring(0, 4), 16));
            k++;
        }
        Rig.holds("ids below and above 128", rig.x.coin(0, 5) < 32768 && rig.x.coin(k - 1, 5) >= 32768);
        due("none behind", rig.x.coin(k, 0), NONE);
    }

    private static void coinOfOthers() {
        Rig.says("1: the HEIGHT of its BLOCK, 2: its INDEX, 3: 1 if a first TRANSACTION made it, else 0");
        Rig rig = Rig.withCoins(fifties());
        Model.Tx tx = Rig.payment(20, NO_LOCK, Rig.coin(fifties(), 0));
        tx.outs.add(Rig.output(30, new byte[3]));
        Rig.keyed(tx, OPEN);
        due("payment", rig.pay(tx.bytes), 0);
        due("coins", rig.x.count(2), 10);
        due("block", rig.grow(-1, 90, 1, true), 8);
        due("coins then", rig.x.count(2), 12);
        int[][] want = {{20, 8, 0, 0, 0}, {30, 8, 1, 0, 3}};
        int at = Integer.parseInt(tx.id().substring(0, 4), 16);
        int found = 0;
        for (int k = 0; k < 12; k++) {
            if (rig.x.coin(k, 5) == at && found < 2) {
                for (int what = 0; what < 5; what++) {
                    due("output " + found + ", " + what, rig.x.coin(k, what), want[found][what]);
                }
                found++;
            } else {
                due("of a first one", rig.x.coin(k, 3), 1);
            }
        }
        due("both", found, 2);
    }

    private static void balance() {
        Rig.says("The VALUE of all COINS whose LOCK SCRIPT is the TAPE, which is empty then.");
        due("no coins, no tape", new Rig().x.balance(), 0);
        Model.Tx first = new Model.Tx();
        first.lock = 1;
        int[] sizes = {0, 0, 1, 79, 80, 80};
        for (int i = 0; i < sizes.length; i++) {
            first.outs.add(Rig.output(1 << i, new byte[sizes[i]]));
        }
        first.bytes = first.write();
        Rig rig = new Rig();
        due("block", rig.block(Rig.mined(Rig.ZEROS, 10, 32768, first)), 1);
        due("tip", rig.x.tip(1), 1);
        int[][] cases = {{0, 3}, {1, 4}, {2, 0}, {78, 0}, {79, 8}, {80, 48}, {81, 0}, {4096, 0}};
        for (int[] c : cases) {
            rig.tape(new byte[c[0]]);
            due("of " + c[0] + " bytes", rig.x.balance(), c[1]);
            due("tape", rig.x.count(6), 0);
        }
        byte[] last = new byte[80];
        last[79] = 1;
        rig.tape(last);
        due("another last byte", rig.x.balance(), 0);
        byte[] head = new byte[80];
        head[0] = 1;
        rig.tape(head);
        due("another first byte", rig.x.balance(), 0);
    }

    private static void pooled() {
        Rig.says("NONE if there is none; REFUSED for another what, first.");
        Rig rig = Rig.withCoins(fifties());
        for (int members = 0; members <= 2; members++) {
            for (int what : new int[] {-1, 4, LOWEST, HIGHEST}) {
                for (int k : new int[] {-1, 0, 1, 2}) {
                    due("pooled(" + k + ", " + what + ")", rig.x.pooled(k, what), REFUSED);
                }
            }
            for (int what = 0; what <= 3; what++) {
                for (int k : new int[] {-1, members, members + 1, LOWEST, HIGHEST}) {
                    due("pooled(" + k + ", " + what + ")", rig.x.pooled(k, what), NONE);
                }
            }
            for (int k = 0; k < members; k++) {
                int[] want = {0, 46, 1, 1};
                for (int what = 0; what <= 3; what++) {
                    due("pooled(" + k + ", " + what + ")", rig.x.pooled(k, what), want[what]);
                }
            }
            rig.pay(pays(50, Rig.coin(fifties(), members)).bytes);
        }
        Rig.says("what 0: its FEE, 1: its bytes, 2: INPUTS, 3: OUTPUTS");
        Rig other = Rig.withCoins(fifties());
        Model.Tx tx = Rig.payment(20, NO_LOCK, Rig.coin(fifties(), 0), Rig.coin(fifties(), 1));
        tx.outs.add(Rig.output(30, NO_LOCK));
        tx.outs.add(Rig.output(9, new byte[80]));
        Rig.keyed(tx, OPEN);
        due("payment", other.pay(tx.bytes), 41);
        int[] want = {41, tx.bytes.length, 2, 3};
        for (int what = 0; what <= 3; what++) {
            due("what " + what, other.x.pooled(0, what), want[what]);
        }
    }

    private static void octet() {
        Rig.says("Byte i of OUT; for i -1 how many it has. NONE if there is none.");
        Rig rig = new Rig();
        due("none", rig.x.octet(-1), 0);
        for (int i : new int[] {0, 1, -2, LOWEST, HIGHEST}) {
            due("empty, " + i, rig.x.octet(i), NONE);
        }
        rig.x.draft(0, 255, -1, false);
        due("how many", rig.x.octet(-1), 94);
        due("0", rig.x.octet(0), 0);
        due("67", rig.x.octet(67), 255);
        due("93", rig.x.octet(93), 95);
        for (int i : new int[] {94, 95, -2, LOWEST, HIGHEST}) {
            due("block, " + i, rig.x.octet(i), NONE);
        }
        // A shorter one leaves nothing of it behind.
        rig.growTip(1);
        rig.x.spend(0, 1, 1, 1000000, 0);
        due("how many of the payment", rig.x.octet(-1), 51);
        due("50", rig.x.octet(50), 95);
        due("51", rig.x.octet(51), NONE);
        due("93 of it", rig.x.octet(93), NONE);
    }

    private static void count() {
        Rig.says("6: bytes on the TAPE. REFUSED for others.");
        Rig rig = Rig.withCoins(fifties());
        rig.pay(pays(50, Rig.coin(fifties(), 0)).bytes);
        rig.block(Rig.mined("12".repeat(32), 1, 32768, fifties()));
        rig.tape(new byte[3]);
        int first = 77 + fifties().bytes.length;
        long[] want = {8, 1, 10, 6000200, 1, first + 6 * 94, 3};
        for (int what = 0; what <= 6; what++) {
            due("count(" + what + ")", rig.x.count(what), want[what]);
        }
        for (int what : new int[] {-1, 7, LOWEST, HIGHEST}) {
            due("count(" + what + ")", rig.x.count(what), REFUSED);
        }
    }
}

import java.util.ArrayList;
import java.util.Arrays;
import java.util.List;

/** A new ledger, with shorthands for what most tests do to it, and the count of wrong answers. */
final class Rig {
    static int wrong;
    /** The words of the document that are tested just now, told with each wrong answer. */
    private static String words = "";

    final Ledger x = new Ledger();

    static void says(String sentence) {
        words = "\"" + sentence + "\": ";
    }

    static void due(String what, long got, long want) {
        if (got != want) {
            wrong++;
            System.out.println(words + what + " answered " + got + ", due is " + want);
        }
    }

    static void holds(String what, boolean is) {
        due(what, is ? 1 : 0, 1);
    }

    static void finish(String name) {
        System.out.println(name + (wrong == 0 ? ": all answers are as due" : ": " + wrong + " answers are not as due"));
        if (wrong != 0) {
            System.exit(1);
        }
    }

    // ---- giving bytes

    /** Brings the bytes to the tape, which is emptied first. */
    void tape(byte[] bytes) {
        if (x.count(6) > 0) {
            x.end(0);
        }
        java.nio.ByteBuffer padded = java.nio.ByteBuffer.wrap(Arrays.copyOf(bytes, (bytes.length + 19) / 20 * 20));
        while (padded.remaining() > 0 && x.count(6) <= 4076) {
            x.feed(padded.getInt(), padded.getInt(), padded.getInt(), padded.getInt(), padded.getInt());
        }
        if (padded.remaining() > 0) {
            // The last bytes up to 4096: all is fed once more from another beginning.
            int at = bytes.length - 20;
            x.end(at);
            java.nio.ByteBuffer last = java.nio.ByteBuffer.wrap(bytes, at, 20);
            x.feed(last.getInt(), last.getInt(), last.getInt(), last.getInt(), last.getInt());
        }
        if (x.count(6) != bytes.length) {
            due("tape", x.end(bytes.length), bytes.length);
        }
    }

    int block(byte[] bytes) {
        tape(bytes);
        int answer = x.block();
        due("tape behind block", x.count(6), 0);
        return answer;
    }

    int pay(byte[] bytes) {
        tape(bytes);
        int answer = x.pay();
        due("tape behind pay", x.count(6), 0);
        return answer;
    }

    byte[] out() {
        byte[] all = new byte[x.octet(-1)];
        for (int i = 0; i < all.length; i++) {
            all[i] = (byte) x.octet(i);
        }
        return all;
    }

    // ---- growing

    /** Drafts on the parent, mines and sends: the number. */
    int grow(int parent, int time, int key, boolean pool) {
        x.draft(parent, time, key, pool);
        while (x.mine(2000) < 0) {
            // Not enough yet.
        }
        return x.send();
    }

    /** n blocks on the tip, of key 1, ten apart. */
    void growTip(int n) {
        for (int i = 0; i < n; i++) {
            int number = (int) x.tip(1);
            grow(-1, x.stored(number, 2) + 10, 1, false);
        }
    }

    /** A rig of height 7 whose first block has this payment; only its coins may be spent in the next one. */
    static Rig withCoins(Model.Tx first) {
        Rig rig = new Rig();
        due("first block", rig.block(mined(ZEROS, 10, 32768, first)), 1);
        rig.growTip(6);
        due("height", rig.x.tip(0), 7);
        return rig;
    }

    /** A block of these payments on a stored one, mined, with the target that is due. */
    byte[] on(int parent, int time, Model.Tx... txs) {
        x.draft(parent, time, 1, false);
        byte[] draft = out();
        return mined(Model.hex(Arrays.copyOf(draft, 32)), time, outNumber(68), txs);
    }

    /** Whether the payments may stand behind a first one of this reward, on the coins of another, at height 8. */
    static boolean stand(Model.Tx coins, int reward, Model.Tx... payments) {
        Model.Tx[] all = new Model.Tx[payments.length + 1];
        all[0] = first(8, reward, new byte[0]);
        System.arraycopy(payments, 0, all, 1, payments.length);
        return standAlone(coins, all);
    }

    /** Whether a block of just these payments, on the coins of another one, is followed at height 8. */
    static boolean standAlone(Model.Tx coins, Model.Tx... all) {
        Rig rig = withCoins(coins);
        byte[] block = rig.on(-1, 80, all);
        long before = rig.x.count(2);
        long sum = rig.x.count(3);
        due("stored", rig.block(block), 8);
        boolean sound = rig.x.tip(1) == 8;
        if (!sound) {
            due("tip", rig.x.tip(1), 7);
            due("coins stay", rig.x.count(2), before);
            due("sum stays", rig.x.count(3), sum);
        }
        return sound;
    }

    /** The number that stands at a place of OUT. */
    int outNumber(int at) {
        return x.octet(at) << 24 | x.octet(at + 1) << 16 | x.octet(at + 2) << 8 | x.octet(at + 3);
    }

    // ---- making

    static Model.Out output(int value, byte[] lock) {
        Model.Out out = new Model.Out();
        out.value = value;
        out.lock = lock;
        return out;
    }

    /** A key script of so many bytes, 2 to 77, that opens an empty lock. */
    static byte[] openOf(int bytes) {
        return Model.join(Model.bytes(bytes - 2), new byte[bytes - 2], Model.bytes(102));
    }

    /** A payment of 686 bytes and 34 for each input, and of its key scripts, which have so many bytes. */
    static Model.Tx longOne(Model.Tx from, int firstCoin, int fee, int... keyBytes) {
        Model.Tx tx = payment(50 * keyBytes.length - fee, new byte[80]);
        for (int k = 0; k < 7; k++) {
            tx.outs.add(output(0, new byte[80]));
        }
        for (int i = 0; i < keyBytes.length; i++) {
            Model.In in = new Model.In();
            in.coin = coin(from, firstCoin + i);
            in.key = openOf(keyBytes[i]);
            tx.ins.add(in);
        }
        tx.bytes = tx.write();
        return tx;
    }

    /** A first payment with as many outputs as there are locks, each of the value. */
    static Model.Tx first(int height, int value, byte[]... locks) {
        Model.Tx tx = new Model.Tx();
        tx.lock = height;
        for (byte[] lock : locks) {
            tx.outs.add(output(value, lock));
        }
        tx.bytes = tx.write();
        return tx;
    }

    /** A payment of the value to the lock, from outputs of others: its inputs have no key scripts yet. */
    static Model.Tx payment(int value, byte[] lock, String... coins) {
        Model.Tx tx = new Model.Tx();
        for (String coin : coins) {
            Model.In in = new Model.In();
            in.coin = coin;
            in.key = new byte[0];
            tx.ins.add(in);
        }
        tx.outs.add(output(value, lock));
        tx.bytes = tx.write();
        return tx;
    }

    static Model.Tx signed(Model.Tx tx, int key) {
        for (Model.In in : tx.ins) {
            in.key = Maker.pushSignature(Model.number(key), tx.signHash());
        }
        tx.bytes = tx.write();
        return tx;
    }

    static Model.Tx keyed(Model.Tx tx, byte... key) {
        for (Model.In in : tx.ins) {
            in.key = key;
        }
        tx.bytes = tx.write();
        return tx;
    }

    static String coin(Model.Tx tx, int index) {
        return tx.id() + "0" + index;
    }

    static byte[] mined(String parent, int time, int target, Model.Tx... txs) {
        List<Model.Tx> all = new ArrayList<>(List.of(txs));
        Model.Node base = new Model.Node();
        base.id = parent;
        return mine(Model.blockBytes(base, time, target, 0, all));
    }

    /** A block of the payments as they are, right or wrong, with their root, and mined. */
    static byte[] raw(int count, byte[]... payments) {
        List<Model.Tx> txs = new ArrayList<>();
        for (byte[] bytes : payments) {
            Model.Tx tx = new Model.Tx();
            tx.bytes = bytes;
            txs.add(tx);
        }
        byte[] block = Model.blockBytes(new Model.Node(), 10, 32768, 0, txs);
        block[76] = (byte) count;
        return mine(block);
    }

    /** Mines for the target that stands in it, or for 65535 if none can. */
    static byte[] mine(byte[] block) {
        int target = java.nio.ByteBuffer.wrap(block).getInt(68);
        int below = target < 1 || target > 65535 ? 65535 : target;
        while (Model.leading(block) >= below) {
            Model.setNonce(block, Model.nonce(block) + 1);
        }
        return block;
    }

    static String id(byte[] block) {
        return Model.hex(Model.hash(Arrays.copyOf(block, 76)));
    }

    static final String ZEROS = "00".repeat(32);
}

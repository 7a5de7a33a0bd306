import java.util.ArrayList;
import java.util.Arrays;
import java.util.List;

/** A new ledger, with shorthands for what most tests do to it, and the count of wrong answers. */
final class Rig {
    static int wrong;

    final ChainLedger x = new ChainLedger();

    static void due(String what, long got, long want) {
        if (got != want) {
            wrong++;
            System.out.println(what + " answered " + got + ", due is " + want);
        }
    }

    static void finish(String name) {
        System.out.println(name + (wrong == 0 ? ": all answers are as due" : ": " + wrong + " answers are not as due"));
        if (wrong != 0) {
            System.exit(1);
        }
    }

    // ---- giving bytes

    /** Brings the bytes to the tape, which is emptied first. */
    void tape(byte[] bytes) {
        x.end(0);
        java.nio.ByteBuffer padded = java.nio.ByteBuffer.wrap(Arrays.copyOf(bytes, (bytes.length + 19) / 20 * 20));
        while (padded.remaining() > 0 && x.count(6) <= 4076) {
            x.feed(padded.getInt(), padded.getInt(), padded.getInt(), padded.getInt(), padded.getInt());
        }
        if (padded.remaining() > 0) {
            // The last bytes up to 4096: all is fed once more from another beginning.
            int at = bytes.length - 20;
            x.end(at);
            java.nio.ByteBuffer last = java.nio.ByteBuffer.wrap(bytes, at, 20);
            x.feed(last.getInt(), last.getInt(), last.getInt(), last.getInt(), last.getInt());
        }
        due("tape", x.end(bytes.length), bytes.length);
    }

    int block(byte[] bytes) {
        tape(bytes);
        int answer = x.block();
        due("tape behind block", x.count(6), 0);
        return answer;
    }

    int pay(byte[] bytes) {
        tape(bytes);
        int answer = x.pay();
        due("tape behind pay", x.count(6), 0);
        return answer;
    }

    byte[] out() {
        byte[] all = new byte[x.octet(-1)];
        for (int i = 0; i < all.length; i++) {
            all[i] = (byte) x.octet(i);
        }
        return all;
    }

    // ---- growing

    /** Drafts on the parent, mines and sends: the number. */
    int grow(int parent, int time, int key, boolean pool) {
        x.draft(parent, time, key, pool);
        while (x.mine(2000) < 0) {
            // Not enough yet.
        }
        return x.send();
    }

    /** n blocks on the tip, of key 1, ten apart. */
    void growTip(int n) {
        for (int i = 0; i < n; i++) {
            int number = (int) x.tip(1);
            grow(-1, x.stored(number, 2) + 10, 1, false);
        }
    }

    // ---- making

    static Model.Out output(int value, byte[] lock) {
        Model.Out out = new Model.Out();
        out.value = value;
        out.lock = lock;
        return out;
    }

    /** A first payment with as many outputs as there are locks, each of the value. */
    static Model.Tx first(int height, int value, byte[]... locks) {
        Model.Tx tx = new Model.Tx();
        tx.lock = height;
        for (byte[] lock : locks) {
            tx.outs.add(output(value, lock));
        }
        tx.bytes = tx.write();
        return tx;
    }

    /** A payment of the value to the lock, from outputs of others: its inputs have no key scripts yet. */
    static Model.Tx payment(int value, byte[] lock, String... coins) {
        Model.Tx tx = new Model.Tx();
        for (String coin : coins) {
            Model.In in = new Model.In();
            in.coin = coin;
            in.key = new byte[0];
            tx.ins.add(in);
        }
        tx.outs.add(output(value, lock));
        tx.bytes = tx.write();
        return tx;
    }

    static Model.Tx signed(Model.Tx tx, int key) {
        for (Model.In in : tx.ins) {
            in.key = Maker.pushSignature(Model.number(key), tx.signHash());
        }
        tx.bytes = tx.write();
        return tx;
    }

    static Model.Tx keyed(Model.Tx tx, byte... key) {
        for (Model.In in : tx.ins) {
            in.key = key;
        }
        tx.bytes = tx.write();
        return tx;
    }

    static String coin(Model.Tx tx, int index) {
        return tx.id() + "0" + index;
    }

    static byte[] mined(String parent, int time, int target, Model.Tx... txs) {
        List<Model.Tx> all = new ArrayList<>(List.of(txs));
        Model.Node base = new Model.Node();
        base.id = parent;
        return mine(Model.blockBytes(base, time, target, 0, all));
    }

    /** Mines for the target that stands in it, or for 65535 if none can. */
    static byte[] mine(byte[] block) {
        int target = java.nio.ByteBuffer.wrap(block).getInt(68);
        int below = target < 1 || target > 65535 ? 65535 : target;
        while (Model.leading(block) >= below) {
            Model.setNonce(block, Model.nonce(block) + 1);
        }
        return block;
    }

    static String id(byte[] block) {
        return Model.hex(Model.hash(Arrays.copyOf(block, 76)));
    }

    static final String ZEROS = "00".repeat(32);
}

import java.util.ArrayList;
import java.util.Arrays;
import java.util.List;
import java.util.Map;
import java.util.Random;

/** Makes blocks, payments and scripts for the tests, mostly right ones. */
final class Maker {
    final Random random;
    /** Takes every block that is made, so that it knows the coins at the end of each. */
    final Model donor = new Model();
    /** How many of a hundred things have a fault. */
    int faults = 4;
    int mostPayments = 4;

    Maker(long seed) {
        random = new Random(seed);
    }

    int below(int n) {
        return random.nextInt(n);
    }

    boolean chance(int percent) {
        return random.nextInt(100) < percent;
    }

    // ---- locks, each with what opens it

    byte[] someLock() {
        int key = below(4);
        switch (below(9)) {
            case 0:
                return new byte[0];
            case 1:
                return Model.join(Model.bytes(93, 32), Model.sha(Model.bytes(1, 2, key)), Model.bytes(86));
            case 2:
                return Model.join(Model.bytes(1, 2, 4), Model.number(key), Model.bytes(4), Model.number(key + 1),
                        Model.bytes(4), Model.number(key + 2), Model.bytes(1, 3, 103));
            case 3:
                return Model.bytes(1, 5 + below(12), 96, 102);
            case 4:
                return Model.join(Model.bytes(97, 4), Model.number(key), Model.bytes(99, 4), Model.number(key + 1),
                        Model.bytes(100, 95));
            case 5:
                return someScript(0);
            default:
                return Model.keyLock(key);
        }
    }

    byte[] opening(byte[] lock, byte[] signHash) {
        if (chance(faults)) {
            return someScript(0);
        }
        if (lock.length == 6) {
            return pushSignature(Arrays.copyOfRange(lock, 1, 5), signHash);
        }
        if (lock.length == 35) {
            for (int key = 0; key < 4; key++) {
                if (Arrays.equals(Arrays.copyOfRange(lock, 2, 34), Model.sha(Model.bytes(1, 2, key)))) {
                    return Model.bytes(3, 1, 2, key);
                }
            }
        }
        if (lock.length == 20 && lock[19] == 103) {
            int leave = below(3);
            byte[] all = new byte[0];
            for (int i = 0; i < 3; i++) {
                if (i != leave) {
                    byte[] key = Arrays.copyOfRange(lock, 3 + 5 * i, 7 + 5 * i);
                    all = Model.join(all, pushSignature(key, signHash));
                }
            }
            return all;
        }
        if (lock.length == 14 && lock[0] == 97) {
            boolean first = chance(50);
            byte[] key = first ? Arrays.copyOfRange(lock, 2, 6) : Arrays.copyOfRange(lock, 8, 12);
            return Model.join(pushSignature(key, signHash), Model.bytes(first ? 102 : 0));
        }
        return Model.bytes(102);
    }

    static byte[] pushSignature(byte[] key, byte[] signHash) {
        return Model.join(Model.bytes(8), Model.signature(key, signHash));
    }

    /** A script that mostly has what it needs on the stack, if depth elements are there before it. */
    byte[] someScript(int depth) {
        byte[] script = new byte[0];
        int there = depth;
        int open = 0;
        int n = below(16);
        for (int i = 0; i < n && script.length < 60; i++) {
            byte[] more = there < 2 || chance(40) ? someElement() : Model.bytes(someOp());
            if (more.length == 1 && (more[0] == 97 || more[0] == 98)) {
                open++;
            }
            there += more.length > 1 || more[0] <= 75 ? 1 : 0;
            script = Model.join(script, more);
        }
        for (; open > 0 && !chance(5); open--) {
            script = Model.join(script, Model.bytes(100));
        }
        if (chance(30)) {
            script = Model.join(script, Model.bytes(102));
        }
        return script.length > 80 ? Arrays.copyOf(script, 80) : script;
    }

    private byte[] someElement() {
        switch (below(6)) {
            case 0:
                return Model.bytes(102);
            case 1:
                return Model.bytes(0);
            case 2:
                return Model.bytes(1, below(10));
            case 3:
                return Model.bytes(1, below(256));
            default:
                byte[] of = new byte[below(6)];
                random.nextBytes(of);
                if (chance(20)) {
                    Arrays.fill(of, (byte) 0);
                }
                return Model.join(Model.bytes(of.length), of);
        }
    }

    private int someOp() {
        if (chance(4)) {
            return 76 + below(30);
        }
        int[] usual = {80, 81, 82, 83, 85, 86, 87, 88, 89, 90, 91, 92, 93, 94, 95, 96, 97, 98, 99, 99, 100, 102, 103};
        return usual[below(usual.length)];
    }

    // ---- payments

    /** A payment from some of the coins, which it changes as if it had come. Null if there are none. */
    Model.Tx somePayment(Map<String, Model.CoinAt> coins, int height) {
        List<String> names = new ArrayList<>();
        for (Map.Entry<String, Model.CoinAt> e : coins.entrySet()) {
            if (!e.getValue().first || height >= e.getValue().height + 6 || chance(faults)) {
                names.add(e.getKey());
            }
        }
        if (names.isEmpty()) {
            return null;
        }
        Model.Tx tx = new Model.Tx();
        tx.lock = chance(80) ? 0 : Math.max(0, height - 1 + below(chance(faults) ? 3 : 2));
        int inputs = chance(70) ? 1 : 1 + below(Math.min(8, names.size()));
        long sum = 0;
        for (int i = 0; i < inputs; i++) {
            String name = names.get(below(names.size()));
            if (!chance(faults)) {
                names.remove(name);
            }
            Model.In in = new Model.In();
            in.coin = chance(faults) ? Model.hex(Model.sha(Model.bytes(i))) + "00" : name;
            in.key = new byte[0];
            tx.ins.add(in);
            sum += coins.get(name).out.value;
            if (names.isEmpty()) {
                break;
            }
        }
        shareOut(tx, sum + (chance(faults) ? 1 : 0), below(20));
        byte[] signHash = tx.signHash();
        for (Model.In in : tx.ins) {
            Model.CoinAt coin = coins.get(in.coin);
            in.key = coin == null ? new byte[0] : opening(coin.out.lock, signHash);
        }
        tx.bytes = tx.write();
        return tx;
    }

    private void shareOut(Model.Tx tx, long sum, int most) {
        int outputs = chance(10) ? 1 + below(8) : 1 + below(3);
        long left = Math.max(0, sum - (chance(50) ? 0 : below(most + 1)));
        for (int i = 0; i < outputs; i++) {
            Model.Out out = new Model.Out();
            out.value = (int) (i == outputs - 1 ? left : left / (2 + below(3)));
            left -= out.value;
            out.lock = someLock();
            tx.outs.add(out);
        }
    }

    // ---- blocks

    /** Branches that run level with the tip are gone on with, too, so that it changes often. */
    boolean rivals;

    Model.Node someParent() {
        List<Model.Node> all = donor.stored;
        if (rivals) {
            List<Model.Node> level = new ArrayList<>();
            for (Model.Node n : all) {
                if (n.height >= donor.tip.height - 1 && (n.coins != null || chance(20))) {
                    level.add(n);
                }
            }
            return level.get(below(level.size()));
        }
        if (chance(55)) {
            return donor.tip;
        }
        return all.get(Math.max(0, all.size() - 1 - below(Math.min(12, all.size()))));
    }

    /** A block on the parent, mined; the donor has it if it follows the rules. */
    byte[] someBlock(Model.Node parent) {
        int height = parent.height + 1;
        Map<String, Model.CoinAt> coins = new java.util.TreeMap<>(parent.coins == null ? Map.of() : parent.coins);
        List<Model.Tx> txs = new ArrayList<>();
        long fees = 0;
        int size = 800;
        for (int i = below(mostPayments + 1); i > 0; i--) {
            Model.Tx tx = somePayment(coins, height);
            if (tx != null && size + tx.bytes.length < 4000) {
                size += tx.bytes.length;
                Map<String, Model.CoinAt> after = new java.util.TreeMap<>(coins);
                long fee = Model.apply(tx, height, after);
                if (fee >= 0 || chance(10)) {
                    fees += Math.max(0, fee);
                    coins = fee >= 0 ? after : coins;
                    txs.add(tx);
                }
            }
        }
        Model.Tx first = new Model.Tx();
        first.lock = height + (chance(faults) ? 1 : 0);
        shareOut(first, Model.reward(height) + fees + (chance(faults) ? 1 : 0), 5);
        first.bytes = first.write();
        txs.add(0, first);
        int time = Math.max(0, Model.median(parent) + (chance(faults) ? 0 : 1 + below(chance(50) ? 6 : 40)));
        return mined(parent, time, Model.due(parent) + (chance(faults) ? 1 : 0), txs);
    }

    byte[] mined(Model.Node parent, int time, int target, List<Model.Tx> txs) {
        byte[] bytes = Model.blockBytes(parent, time, target, below(1000), txs);
        while (Model.leading(bytes) >= target) {
            Model.setNonce(bytes, Model.nonce(bytes) + 1);
        }
        donor.receiveBlock(bytes);
        return bytes;
    }
}

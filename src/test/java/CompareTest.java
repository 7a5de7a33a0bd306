import java.util.ArrayList;
import java.util.List;
import java.util.Random;

/** Runs of up to 512 calls, the same every time, whose answers must be those of the model. */
public final class CompareTest {
    private static int wrong;
    private static long calls;
    private static int reorgs, unsound, pooledTwice, heldMost, accepted, tried;

    public static void main(String[] args) {
        int runs = args.length > 0 ? Integer.parseInt(args[0]) : 40;
        int from = args.length > 1 ? Integer.parseInt(args[1]) : 0;
        for (int seed = from; seed < from + runs && wrong == 0; seed++) {
            chains(seed);
            scripts(seed);
        }
        anyArguments();
        tell();
        if (wrong != 0) {
            System.exit(1);
        }
    }

    /** Runs of all kinds but for those of scripts: how many answers were wrong up to now. */
    static int chains(int seed) {
        byHand(seed);
        inAnyOrder(new Maker(seed), "in any order " + seed, 3);
        Maker far = new Maker(seed + 500000);
        far.mostPayments = 1;
        inAnyOrder(far, "far out of order " + seed, 24);
        Maker rivals = new Maker(seed + 700000);
        rivals.rivals = true;
        rivals.faults = 1;
        inAnyOrder(rivals, "rivals " + seed, 4);
        return wrong;
    }

    static void tell() {
        System.out.println(calls + " calls compared; tips changed branch " + reorgs + " times, unsound blocks "
                + unsound + ", most held " + heldMost + ", pool refilled " + pooledTwice
                + ", scripts " + accepted + " of " + tried);
    }

    private static void close(Twin twin) {
        twin.compareAll();
        wrong += twin.wrong;
        calls += twin.calls;
    }

    /** What the calls of the face alone can do. */
    private static void byHand(int seed) {
        Random random = new Random(seed);
        Twin twin = new Twin("by hand " + seed);
        for (int i = 0; twin.ledger.left() > 60 && twin.wrong == 0; i++) {
            someCalls(twin, random);
            if (i % 30 == 0) {
                twin.compareAll();
            }
        }
        close(twin);
    }

    private static void someCalls(Twin twin, Random random) {
        int stored = twin.model.stored.size();
        int coins = twin.model.tip.coins.size();
        switch (random.nextInt(16)) {
            case 0, 1, 2 -> {
                int time = Math.min(Model.median(twin.model.tip), 1 << 30) + random.nextInt(60);
                twin.draft(-1, time, random.nextInt(3), random.nextInt(4) > 0);
                twin.mine(1 + random.nextInt(2000));
                twin.send();
            }
            case 3 -> {
                int parent = Math.max(0, stored - 1 - random.nextInt(8));
                int time = Model.median(twin.model.stored.get(parent)) + random.nextInt(30);
                twin.draft(parent, time, random.nextInt(3), random.nextBoolean());
                twin.mine(1 + random.nextInt(60));
                twin.send();
            }
            case 4, 5, 6 -> spendSome(twin, random, coins);
            case 7 -> {
                twin.back();
                twin.alter(random.nextInt(Math.max(1, twin.model.out.length)), random.nextInt(256));
                if (random.nextBoolean()) {
                    twin.block();
                } else {
                    twin.pay();
                }
            }
            case 8 -> {
                twin.feedAll(Model.keyLock(random.nextInt(3)));
                twin.balance();
            }
            case 9 -> {
                twin.feed(random.nextInt(), random.nextInt(), random.nextInt(), 0, 0);
                twin.end(random.nextInt(30) - 1);
                twin.script(random.nextInt(11) - 2);
            }
            case 10 -> {
                twin.back();
                twin.balance();
            }
            case 11 -> twin.draft(random.nextInt(stored + 4) - 3, random.nextInt(400) - 10, 5, true);
            case 12 -> {
                twin.spend(random.nextInt(coins + 3) - 1, random.nextInt(10), 1,
                        random.nextInt(3000000) - 10, random.nextInt(10) - 1);
                twin.mine(random.nextInt(4) * 700);
            }
            case 13 -> {
                twin.sign(random.nextInt(9) - 1, random.nextInt(3));
                twin.send();
            }
            case 14 -> twin.end(0);
            default -> twin.compareSums();
        }
    }

    /** Arguments far out, on new objects and on used ones. */
    private static void anyArguments() {
        int[] some = {Integer.MIN_VALUE, -1001, -3, -2, -1, 0, 1, 2, 5, 6, 7, 8, 9, 255, 256, 2000, 2001, 4096,
            1000000, Integer.MAX_VALUE - 1, Integer.MAX_VALUE};
        for (int stage = 0; stage < 3; stage++) {
            for (int a : some) {
                for (int b : some) {
                    Twin twin = new Twin("any arguments, stage " + stage + ", " + a + ", " + b);
                    for (int i = 0; i < 9 * stage; i++) {
                        twin.draft(-1, 10 * i + 10, 1, true);
                        twin.mine(2000);
                        twin.send();
                    }
                    withArguments(twin, a, b, some);
                    wrong += twin.wrong;
                    calls += twin.calls;
                }
            }
        }
    }

    private static void withArguments(Twin twin, int a, int b, int[] some) {
        twin.feed(a, b, a, b, a);
        twin.alter(a, b);
        twin.octet(a);
        twin.tip(a);
        twin.count(a);
        twin.stored(a, b);
        twin.coin(a, b);
        twin.pooled(a, b);
        twin.sign(a, b);
        twin.script(a);
        twin.mine(a);
        twin.draft(a, b, a, true);
        twin.mine(b);
        for (int c : some) {
            twin.spend(0, 1, a, b, c);
            twin.sign(c, a);
            twin.spend(a, b, c, c, c);
            twin.spend(a, 2, b, 3, c);
        }
        twin.sign(a, b);
        twin.script(b);
        twin.end(a);
        twin.send();
        twin.back();
        twin.pay();
        twin.compareSums();
    }

    private static void spendSome(Twin twin, Random random, int coins) {
        int n = 1 + random.nextInt(random.nextInt(4) == 0 ? 8 : 2);
        int k = random.nextInt(coins + 1);
        if (twin.spend(k, n, random.nextInt(3), random.nextInt(900000), random.nextInt(9)) < 0) {
            return;
        }
        Model.Tx made = Model.readTx(twin.model.out);
        if (random.nextInt(6) == 0) {
            twin.end(0);
            twin.feedAll(random.nextBoolean() ? new byte[0] : Model.bytes(1, random.nextInt(20), 96, 102));
            twin.script(-1);
        }
        for (int i = 0; i < n; i++) {
            byte[] lock = twin.model.tip.coins.get(made.ins.get(i).coin).out.lock;
            if (lock.length == 6) {
                twin.sign(i, random.nextInt(12) == 0 ? 7 : lock[4]);
            } else {
                twin.end(0);
                twin.feedAll(Model.bytes(102));
                twin.script(i);
            }
        }
        twin.send();
    }

    /** Blocks and payments of many branches, out of order, some with faults, as many as one object may get. */
    private static void inAnyOrder(Maker maker, String name, int window) {
        Twin twin = new Twin(name);
        List<byte[]> waiting = new ArrayList<>();
        while (twin.wrong == 0) {
            while (waiting.size() < window) {
                waiting.add(maker.someBlock(maker.someParent()));
            }
            byte[] next = waiting.remove(maker.below(waiting.size()));
            if (maker.chance(50)) {
                paySome(maker, twin, next);
            }
            if (!twin.canTake(next)) {
                break;
            }
            give(maker, twin, next, waiting);
            if (maker.chance(10)) {
                twin.compareAll();
            }
        }
        close(twin);
    }

    private static void give(Maker maker, Twin twin, byte[] next, List<byte[]> waiting) {
        Model.Node former = twin.model.tip;
        int pooled = twin.model.pool.size();
        int answer = twin.giveBlock(next);
        reorgs += Model.leadsTo(former, twin.model.tip) ? 0 : 1;
        pooledTwice += twin.model.pool.size() > pooled ? 1 : 0;
        heldMost = Math.max(heldMost, twin.model.held.size());
        unsound += answer > 0 && answer < 1000 && twin.model.stored.get(answer).coins == null ? 1 : 0;
        if (answer == Model.FULL || maker.chance(5)) {
            waiting.add(next);
        }
        twin.compareSums();
    }

    private static void paySome(Maker maker, Twin twin, byte[] next) {
        Model.Node node = Model.readBlock(next);
        if (node != null && maker.chance(40)) {
            for (Model.Tx tx : node.txs) {
                if (twin.canTake(tx.bytes)) {
                    twin.givePay(tx.bytes);
                }
            }
        }
        java.util.TreeMap<String, Model.CoinAt> coins = new java.util.TreeMap<>(twin.model.tip.coins);
        int height = twin.model.tip.height + 1;
        for (Model.Entry e : twin.model.pool) {
            Model.apply(e.tx, height, coins);
        }
        Model.Tx tx = maker.somePayment(coins, height);
        if (tx != null && twin.canTake(tx.bytes)) {
            twin.givePay(tx.bytes);
        }
        if (maker.chance(20) && twin.ledger.left() > 20) {
            twin.draft(-1, Model.median(twin.model.tip) + 1, 1, true);
            twin.compareSums();
        }
    }

    /** Key scripts of all kinds on locks of all kinds. */
    private static void scripts(int seed) {
        Maker maker = new Maker(seed + 1000000);
        Twin twin = new Twin("scripts " + seed);
        for (int i = 0; i < 10; i++) {
            Model.Node parent = maker.donor.tip;
            Model.Tx first = new Model.Tx();
            first.lock = parent.height + 1;
            for (int k = 0; k < 8; k++) {
                Model.Out out = new Model.Out();
                out.value = 10 + k;
                out.lock = maker.chance(50) ? new byte[0] : maker.someScript(maker.below(4));
                first.outs.add(out);
            }
            first.bytes = first.write();
            List<Model.Tx> txs = List.of(first);
            twin.giveBlock(maker.mined(parent, Model.median(parent) + 1 + maker.below(20), Model.due(parent), txs));
        }
        while (twin.wrong == 0) {
            List<String> names = new ArrayList<>(twin.model.tip.coins.keySet());
            String name = names.get(maker.below(names.size()));
            Model.CoinAt coin = twin.model.tip.coins.get(name);
            if (coin.height + 6 > twin.model.tip.height + 1) {
                continue;
            }
            Model.Tx tx = new Model.Tx();
            Model.In in = new Model.In();
            in.coin = name;
            in.key = new byte[0];
            tx.ins.add(in);
            tx.outs.add(coin.out);
            in.key = keyScript(maker, tx.signHash());
            byte[] bytes = tx.write();
            if (!twin.canTake(bytes)) {
                break;
            }
            tried++;
            accepted += twin.givePay(bytes) >= 0 ? 1 : 0;
        }
        close(twin);
    }

    private static byte[] keyScript(Maker maker, byte[] signHash) {
        byte[] script = maker.someScript(0);
        if (maker.chance(40)) {
            byte[] keys = new byte[0];
            byte[] signatures = new byte[0];
            int n = maker.below(4);
            int m = 0;
            for (int i = 0; i < n; i++) {
                byte[] key = Model.bytes(maker.below(2));
                keys = Model.join(keys, Model.bytes(1), key);
                if (maker.chance(50)) {
                    byte[] signer = maker.chance(80) ? key : Model.bytes(maker.below(3));
                    signatures = Model.join(signatures, Maker.pushSignature(signer, signHash));
                    m++;
                }
            }
            m += maker.chance(10) ? maker.below(3) - 1 : 0;
            n += maker.chance(10) ? maker.below(3) - 1 : 0;
            script = Model.join(signatures, Model.bytes(1, m), keys, Model.bytes(1, n, 103));
            if (maker.chance(10)) {
                script = Model.join(script, maker.someScript(1));
            }
        }
        return script.length > 80 ? java.util.Arrays.copyOf(script, 80) : script;
    }
}

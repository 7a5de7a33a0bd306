import java.util.ArrayList;
import java.util.HashSet;
import java.util.List;
import java.util.Set;
import java.util.function.IntFunction;

/** Payments with the same ID: what the document decides of them, and then runs of all kinds. See CollisionTest. */
public final class CollisionRuns {
    private static final byte TRUE = 102;
    private static final int[] MASKS = {0x0f, 0x1f, 0x3f, 0xff};

    public static void main(String[] args) {
        WeakHash.mask = 0xff;
        leavesABlockThatMadeACoinAgain();
        triesABlockThatMadeACoinAgain();
        twiceInOneBlock();
        comesToThePoolAgain();
        goesFromThePoolAgain();
        minesWhatCannotBeWellFormed();
        makesACoinThatIsThere();
        int runs = args.length > 0 ? Integer.parseInt(args[0]) : 60;
        int from = args.length > 1 ? Integer.parseInt(args[1]) : 0;
        int wrongRuns = 0;
        for (int seed = from; seed < from + runs && wrongRuns == 0; seed++) {
            WeakHash.mask = MASKS[seed % MASKS.length];
            wrongRuns = CompareTest.chains(seed);
        }
        CompareTest.tell();
        Rig.says("An object is used for at most 512 calls");
        Rig.due("answers that are not those of the model, with few IDs,", wrongRuns, 0);
        Rig.finish("CollisionRuns");
    }

    /** A chain of height 7: the first payment of each block has one output, with an ID of its own and no lock. */
    private static final class Start {
        final Twin twin;
        final Set<String> ids = new HashSet<>();
        final List<Model.Tx> firsts = new ArrayList<>();

        Start(String story) {
            Rig.says(story);
            twin = new Twin(story);
            for (int height = 1; height <= 7; height++) {
                firsts.add(first(height));
                give(twin.model.tip, firsts.get(height - 1));
            }
            Rig.due("height", twin.tip(0), 7);
        }

        /** One of the payments that has the ID or, if that is null, one that no other has. */
        Model.Tx find(String id, IntFunction<Model.Tx> payments) {
            for (int i = 0; i < 100000; i++) {
                Model.Tx tx = payments.apply(i);
                if (id == null ? ids.add(tx.id()) : tx.id().equals(id)) {
                    return tx;
                }
            }
            throw new IllegalStateException("none of the payments has the ID");
        }

        Model.Tx first(int height) {
            return find(null, i -> Rig.first(height, 1000 - i, new byte[0]));
        }

        /** A payment of the coin, whose one output has the value; its lock, which is open, makes the ID. */
        Model.Tx spend(String coin, int value, String id) {
            return find(id, i -> Rig.keyed(Rig.payment(value, lock(i), coin), TRUE));
        }

        private static byte[] lock(int i) {
            return Model.join(Model.bytes(4), Model.number(i), Model.bytes(81));
        }

        int give(Model.Node parent, Model.Tx... txs) {
            int time = Model.median(parent) + 10;
            return twin.giveBlock(Rig.mine(Model.blockBytes(parent, time, Model.due(parent), 0, List.of(txs))));
        }

        Model.Node stored(int n) {
            return twin.model.stored.get(n);
        }

        String id(int height) {
            return firsts.get(height - 1).id();
        }

        /** The coin of the block of this height. */
        String coin(int height) {
            return Rig.coin(firsts.get(height - 1), 0);
        }

        int value(int height) {
            return firsts.get(height - 1).outs.get(0).value;
        }

        int valueNow(String coin) {
            return twin.coin(new ArrayList<>(twin.model.tip.coins.keySet()).indexOf(coin), 0);
        }

        void close() {
            twin.compareAll();
            Rig.due("answers that are not those of the model", twin.wrong, 0);
        }
    }

    private static void leavesABlockThatMadeACoinAgain() {
        Start s = new Start("COINS are those at its end");
        Model.Node p = s.twin.model.tip;
        Model.Tx taking = s.spend(s.coin(1), 100, null);
        Model.Tx again = s.spend(s.coin(2), 300, s.id(1));
        Rig.due("stored", s.give(p, s.first(8), taking, again), 8);
        Rig.due("tip", s.twin.tip(1), 8);
        Rig.due("the coin made again", s.valueNow(s.coin(1)), 300);
        s.give(p, s.first(8));
        s.give(s.stored(9), s.first(9));
        Rig.due("tip of the other branch", s.twin.tip(1), 10);
        Rig.due("the coin as it was", s.valueNow(s.coin(1)), s.value(1));
        s.twin.compareAll();
        s.give(s.stored(8), s.first(9));
        s.give(s.stored(11), s.first(10));
        Rig.due("tip of the first branch", s.twin.tip(1), 12);
        Rig.due("the coin made again, once more", s.valueNow(s.coin(1)), 300);
        s.close();
    }

    private static void triesABlockThatMadeACoinAgain() {
        Start s = new Start("THE TIP is the SOUND BLOCK whose chain has the most WORK");
        Model.Tx taking = s.spend(s.coin(1), 100, null);
        Model.Tx again = s.spend(s.coin(2), 300, s.id(1));
        Model.Tx unripe = s.spend(s.coin(7), 100, null);
        Rig.due("stored", s.give(s.twin.model.tip, s.first(8), taking, again, unripe), 8);
        Rig.due("tip", s.twin.tip(1), 7);
        Rig.due("the coin as it was", s.valueNow(s.coin(1)), s.value(1));
        s.close();
    }

    private static void twiceInOneBlock() {
        Start s = new Start("no two TRANSACTIONS with the same ID");
        Model.Tx one = s.spend(s.coin(1), 100, null);
        Model.Tx other = s.spend(s.coin(2), 300, one.id());
        Rig.due("block", s.give(s.twin.model.tip, s.first(8), one, other), Model.FORM);
        Rig.due("first with it", s.give(s.twin.model.tip, s.first(8), one), 8);
        s.close();
    }

    private static void comesToThePoolAgain() {
        Start s = new Start("such as could follow in a BLOCK on the TIP behind those before them");
        Model.Tx taking = s.spend(s.coin(1), 100, null);
        Model.Tx again = s.spend(s.coin(2), 300, s.id(1));
        Model.Tx last = s.spend(s.coin(1), 20, null);
        Rig.due("fee", s.twin.givePay(taking.bytes), s.value(1) - 100);
        Rig.due("fee of that with the ID", s.twin.givePay(again.bytes), s.value(2) - 300);
        Rig.due("fee of what spends it", s.twin.givePay(last.bytes), 280);
        s.give(s.twin.model.tip, s.first(8));
        Rig.due("in the pool made anew", s.twin.count(4), 3);
        s.close();
    }

    private static void goesFromThePoolAgain() {
        Start s = new Start("has INPUTS that name different COINS that are there");
        s.twin.givePay(s.spend(s.coin(1), 100, null).bytes);
        Model.Tx early = s.spend(s.coin(1), 20, null);
        Rig.due("gone", s.twin.givePay(early.bytes), Model.RULE);
        s.twin.givePay(s.spend(s.coin(2), 300, s.id(1)).bytes);
        Rig.due("come again", s.twin.givePay(early.bytes), 280);
        Rig.due("gone again", s.twin.givePay(s.spend(s.coin(1), 10, null).bytes), Model.RULE);
        s.close();
    }

    private static void minesWhatCannotBeWellFormed() {
        Start s = new Start("as often as it must to be WELL FORMED, at most n times");
        Model.Tx paid = s.spend(s.coin(1), 100, null);
        int fee = s.twin.givePay(paid.bytes);
        int key = 0;
        while (!Model.firstTx(8, 1000000 + fee, Model.keyLock(key)).id().equals(paid.id())) {
            key++;
        }
        s.twin.draft(-1, 100, key, true);
        Rig.due("mine with two of the same ID", s.twin.mine(200), Model.NONE);
        Rig.due("nonce", s.twin.octet(75), 200);
        Rig.due("send", s.twin.send(), Model.FORM);
        s.twin.draft(-1, 100, key, false);
        Rig.holds("mine without the pool", s.twin.mine(2000) >= 0);
        s.twin.draft(-1, 100, key + 1, true);
        Rig.holds("mine for another key", s.twin.mine(2000) >= 0);
        s.close();
    }

    private static void makesACoinThatIsThere() {
        Start s = new Start("its OUTPUTS come, of which none is there (those that go are looked at, too)");
        Model.Tx first = s.find(s.id(1), i -> Rig.first(8, i, new byte[0]));
        Rig.due("stored, with a first one", s.give(s.twin.model.tip, first), 8);
        Rig.due("tip", s.twin.tip(1), 7);
        Rig.due("stored, with another", s.give(s.stored(7), s.first(8), s.spend(s.coin(2), 9, s.id(1))), 9);
        Rig.due("tip", s.twin.tip(1), 7);
        Rig.due("stored, with one that spends it", s.give(s.stored(7), s.first(8), s.spend(s.coin(1), 9, s.id(1))), 10);
        Rig.due("tip", s.twin.tip(1), 7);
        Rig.due("paid", s.twin.givePay(s.spend(s.coin(2), 9, s.id(1)).bytes), Model.RULE);
        Rig.due("paid by it", s.twin.givePay(s.spend(s.coin(1), 9, s.id(1)).bytes), Model.RULE);
        s.close();
    }
}

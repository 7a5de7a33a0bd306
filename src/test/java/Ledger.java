import java.util.ArrayList;
import java.util.List;
import java.util.function.ToLongFunction;

/**
 * The class, with no object of it used for more than 512 calls, as nothing is promised behind them. When
 * they are used up, the calls that may have changed something go to a new object, and must have the same
 * answers there; so only they, and not what is merely asked, are bounded for one run.
 */
final class Ledger {
    static final int MOST_CALLS = 512;

    private ChainLedger x = new ChainLedger();
    private int used;
    private final List<ToLongFunction<ChainLedger>> changes = new ArrayList<>();
    private final List<Long> answers = new ArrayList<>();

    /** How many more calls that may change something there can be. */
    int left() {
        return MOST_CALLS - changes.size();
    }

    private long ask(ToLongFunction<ChainLedger> call) {
        if (used == MOST_CALLS) {
            begin();
        }
        used++;
        return call.applyAsLong(x);
    }

    private long change(ToLongFunction<ChainLedger> call) {
        long answer = ask(call);
        changes.add(call);
        answers.add(answer);
        return answer;
    }

    private void begin() {
        if (left() == 0) {
            throw new IllegalStateException("this run has more than 512 calls, which the document leaves free");
        }
        x = new ChainLedger();
        used = changes.size();
        for (int i = 0; i < used; i++) {
            long again = changes.get(i).applyAsLong(x);
            if (again != answers.get(i)) {
                throw new IllegalStateException("call " + (i + 1) + " of those that change something answered "
                        + answers.get(i) + " and then, on a new object, " + again);
            }
        }
    }

    int feed(int a, int b, int c, int d, int e) {
        return (int) change(x -> x.feed(a, b, c, d, e));
    }

    int end(int n) {
        return (int) change(x -> x.end(n));
    }

    int alter(int i, int value) {
        return (int) change(x -> x.alter(i, value));
    }

    int block() {
        return (int) change(x -> x.block());
    }

    int pay() {
        return (int) change(x -> x.pay());
    }

    int draft(int parent, int time, int key, boolean pool) {
        return (int) change(x -> x.draft(parent, time, key, pool));
    }

    int mine(int n) {
        return (int) change(x -> x.mine(n));
    }

    int spend(int k, int n, int key, int value, int fee) {
        return (int) change(x -> x.spend(k, n, key, value, fee));
    }

    int sign(int i, int key) {
        return (int) change(x -> x.sign(i, key));
    }

    int script(int which) {
        return (int) change(x -> x.script(which));
    }

    int send() {
        return (int) change(x -> x.send());
    }

    int back() {
        return (int) change(x -> x.back());
    }

    long tip(int what) {
        return ask(x -> x.tip(what));
    }

    int stored(int n, int what) {
        return (int) ask(x -> x.stored(n, what));
    }

    int coin(int k, int what) {
        return (int) ask(x -> x.coin(k, what));
    }

    long balance() {
        return change(x -> x.balance());
    }

    int pooled(int k, int what) {
        return (int) ask(x -> x.pooled(k, what));
    }

    int octet(int i) {
        return (int) ask(x -> x.octet(i));
    }

    long count(int what) {
        return ask(x -> x.count(what));
    }
}

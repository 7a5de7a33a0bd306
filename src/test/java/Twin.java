import java.util.Arrays;

/** The class and the model side by side: each call goes to both, and their answers must be the same. */
final class Twin {
    final Ledger ledger = new Ledger();
    final Model model = new Model();
    final String name;
    int calls;
    int wrong;

    Twin(String name) {
        this.name = name;
    }

    private long same(String call, long got, long due) {
        calls++;
        if (got != due) {
            wrong++;
            System.out.println(name + ", call " + calls + ": " + call + " answered " + got + ", due is " + due);
        }
        return due;
    }

    int feed(int a, int b, int c, int d, int e) {
        return (int) same("feed", ledger.feed(a, b, c, d, e), model.feed(a, b, c, d, e));
    }

    int end(int n) {
        return (int) same("end(" + n + ")", ledger.end(n), model.end(n));
    }

    int alter(int i, int value) {
        return (int) same("alter(" + i + ", " + value + ")", ledger.alter(i, value), model.alter(i, value));
    }

    int block() {
        return (int) same("block()", ledger.block(), model.block());
    }

    int pay() {
        return (int) same("pay()", ledger.pay(), model.pay());
    }

    int draft(int parent, int time, int key, boolean pool) {
        return (int) same("draft(" + parent + ", " + time + ", " + key + ", " + pool + ")",
                ledger.draft(parent, time, key, pool), model.draft(parent, time, key, pool));
    }

    int mine(int n) {
        return (int) same("mine(" + n + ")", ledger.mine(n), model.mine(n));
    }

    int spend(int k, int n, int key, int value, int fee) {
        return (int) same("spend(" + k + ", " + n + ", " + key + ", " + value + ", " + fee + ")",
                ledger.spend(k, n, key, value, fee), model.spend(k, n, key, value, fee));
    }

    int sign(int i, int key) {
        return (int) same("sign(" + i + ", " + key + ")", ledger.sign(i, key), model.sign(i, key));
    }

    int script(int which) {
        return (int) same("script(" + which + ")", ledger.script(which), model.script(which));
    }

    int send() {
        return (int) same("send()", ledger.send(), model.send());
    }

    int back() {
        return (int) same("back()", ledger.back(), model.back());
    }

    long tip(int what) {
        return same("tip(" + what + ")", ledger.tip(what), model.tip(what));
    }

    int stored(int n, int what) {
        return (int) same("stored(" + n + ", " + what + ")", ledger.stored(n, what), model.stored(n, what));
    }

    int coin(int k, int what) {
        return (int) same("coin(" + k + ", " + what + ")", ledger.coin(k, what), model.coin(k, what));
    }

    long balance() {
        return same("balance()", ledger.balance(), model.balance());
    }

    int pooled(int k, int what) {
        return (int) same("pooled(" + k + ", " + what + ")", ledger.pooled(k, what), model.pooled(k, what));
    }

    int octet(int i) {
        return (int) same("octet(" + i + ")", ledger.octet(i), model.octet(i));
    }

    long count(int what) {
        return same("count(" + what + ")", ledger.count(what), model.count(what));
    }

    /** Feeds the bytes to the tape, which is cut to them. */
    void feedAll(byte[] bytes) {
        int before = model.tape.length;
        java.nio.ByteBuffer padded = java.nio.ByteBuffer.wrap(Arrays.copyOf(bytes, (bytes.length + 19) / 20 * 20));
        while (padded.hasRemaining()) {
            feed(padded.getInt(), padded.getInt(), padded.getInt(), padded.getInt(), padded.getInt());
        }
        end(before + bytes.length);
    }

    /** Whether so many bytes can still come, with some calls to spare. */
    boolean canTake(byte[] bytes) {
        return ledger.left() > bytes.length / 20 + 20;
    }

    int giveBlock(byte[] bytes) {
        if (bytes.length > 4080) {
            // The last feed would not fit; the bytes of such a block are not told here.
            throw new IllegalArgumentException("too long to feed");
        }
        feedAll(bytes);
        return block();
    }

    int givePay(byte[] bytes) {
        feedAll(bytes);
        return pay();
    }

    /** The counts and the tip. */
    void compareSums() {
        for (int what = -1; what <= 7; what++) {
            count(what);
        }
        for (int what = -1; what <= 4; what++) {
            tip(what);
        }
    }

    /** All that can be asked without a change. */
    void compareAll() {
        compareSums();
        for (int n = -1; n <= model.stored.size(); n++) {
            for (int what = -1; what <= 6; what++) {
                stored(n, what);
            }
        }
        for (int k = -1; k <= model.tip.coins.size(); k++) {
            for (int what = -1; what <= 6; what++) {
                coin(k, what);
            }
        }
        for (int k = -1; k <= model.pool.size(); k++) {
            for (int what = -1; what <= 4; what++) {
                pooled(k, what);
            }
        }
        for (int i = -2; i <= model.out.length; i++) {
            octet(i);
        }
    }
}

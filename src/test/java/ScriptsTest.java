import java.util.Arrays;

/** Each byte of a script, with what it needs, what it does and where it fails. */
public final class ScriptsTest {
    private static final int ONE = 102, DUP = 80, DROP = 81, SWAP = 82, OVER = 83, SIZE = 85;
    private static final int EQUAL = 86, VERIFY = 87, NOT = 88, ADD = 89, SUB = 90, LESS = 91, AND = 92;
    private static final int SHA = 93, HASH = 94, SIGNED = 95, AFTER = 96;
    private static final int IF = 97, UNLESS = 98, ELSE = 99, END = 100, BAD = 101, MANY = 103;
    /** Stand for the signatures of the keys of one byte, 1 to 3, in the scripts below. */
    private static final int SIGN_1 = -1, SIGN_2 = -2, SIGN_3 = -3;

    public static void main(String[] args) {
        elements();
        stack();
        truthAndNumbers();
        depths();
        oneAfterAnother();
        hashes();
        signatures();
        heights();
        branches();
        twoScripts();
        Rig.finish("ScriptsTest");
    }

    private static void good(int... key) {
        check(true, new int[0], key);
    }

    private static void bad(int... key) {
        check(false, new int[0], key);
    }

    /** Pays a coin of the lock, with the key, at height 8. */
    private static void check(boolean succeeds, int[] lock, int[] key) {
        Rig rig = new Rig();
        Model.Tx first = Rig.first(1, 50, bytes(lock, new byte[32]));
        Rig.due("block", rig.block(Rig.mined(Rig.ZEROS, 10, 32768, first)), 1);
        rig.growTip(6);
        Model.Tx tx = Rig.payment(47, Model.keyLock(1), Rig.coin(first, 0));
        byte[] script = bytes(key, tx.signHash());
        String text = "lock " + Arrays.toString(lock) + " key " + Arrays.toString(key);
        Rig.due(text, rig.pay(Rig.keyed(tx, script).bytes), succeeds ? 3 : Model.RULE);
    }

    private static byte[] bytes(int[] of, byte[] signHash) {
        byte[] all = new byte[0];
        for (int b : of) {
            byte[] more = b >= 0 ? Model.bytes(b) : Maker.pushSignature(Model.bytes(-b), signHash);
            all = Model.join(all, more);
        }
        return all;
    }

    private static int[] with(int[] head, int... tail) {
        int[] all = Arrays.copyOf(head, head.length + tail.length);
        System.arraycopy(tail, 0, all, head.length, tail.length);
        return all;
    }

    private static int[] times(int n, int op) {
        int[] all = new int[n];
        Arrays.fill(all, op);
        return all;
    }

    private static void elements() {
        bad();
        good(1, 1);
        good(3, 0, 0, 1);
        bad(0);
        bad(3, 0, 0, 0);
        good(1, 128);
        bad(2, 1);
        bad(1);
        good(with(with(new int[] {75}, times(75, 7)), ONE));
        bad(with(new int[] {75}, times(74, 7)));
        bad(with(new int[] {76}, times(76, 7)));
        for (int op = 76; op <= 255; op++) {
            if (op < DUP || op > MANY || op == 84 || op == BAD) {
                bad(ONE, ONE, op);
                good(0, IF, op, END, ONE);
            }
        }
        good(times(24, ONE));
        bad(times(25, ONE));
        bad(with(times(24, ONE), 0));
    }

    private static void stack() {
        good(1, 5, DUP, EQUAL);
        bad(DUP);
        good(with(with(times(23, ONE), DUP), VERIFY));
        bad(with(times(24, ONE), DUP, DROP));
        good(1, 5, 0, DROP);
        bad(DROP);
        bad(ONE, DROP);
        good(0, 1, 5, SWAP, DROP);
        bad(1, 5, 0, SWAP, DROP, VERIFY);
        good(1, 9, 2, 1, 2, SWAP, 1, 9, EQUAL, VERIFY, 2, 1, 2, EQUAL);
        bad(ONE, SWAP);
        good(with(times(24, ONE), SWAP));
        good(1, 7, 0, OVER, 1, 7, EQUAL);
        good(1, 7, 0, OVER, DROP, NOT);
        bad(ONE, OVER);
        bad(with(times(24, ONE), OVER, DROP));
        good(3, 1, 2, 3, SIZE, 4, 0, 0, 0, 3, EQUAL);
        good(3, 1, 2, 3, SIZE, DROP, 3, 1, 2, 3, EQUAL);
        good(0, SIZE, 0, EQUAL);
        bad(SIZE);
        bad(with(times(24, ONE), SIZE, DROP));
    }

    private static void truthAndNumbers() {
        good(2, 1, 2, 2, 1, 2, EQUAL);
        bad(2, 1, 2, 2, 1, 3, EQUAL);
        bad(2, 1, 2, 1, 1, EQUAL);
        bad(1, 0, 0, EQUAL);
        bad(ONE, EQUAL);
        good(1, 5, 1, 5, EQUAL, 4, 0, 0, 0, 1, EQUAL);
        good(1, 5, 1, 6, EQUAL, 0, EQUAL);
        good(ONE, ONE, VERIFY);
        bad(ONE, 0, VERIFY);
        bad(ONE, 2, 0, 0, VERIFY);
        bad(VERIFY);
        good(0, NOT);
        good(4, 0, 0, 0, 0, NOT);
        bad(1, 2, NOT);
        bad(5, 0, 0, 0, 0, 0, NOT);
        bad(NOT);
        good(1, 2, 1, 3, ADD, 4, 0, 0, 0, 5, EQUAL);
        good(1, 2, 1, 255, ADD, ONE, EQUAL);
        good(1, 1, 1, 255, ADD, 0, EQUAL);
        good(2, 0, 255, ONE, ADD, 4, 0, 0, 1, 0, EQUAL);
        good(2, 255, 0, ONE, ADD, 4, 255, 255, 255, 1, EQUAL);
        good(3, 128, 0, 0, 0, ADD, 4, 255, 128, 0, 0, EQUAL);
        good(4, 127, 255, 255, 255, ONE, ADD, 4, 128, 0, 0, 0, EQUAL);
        bad(5, 0, 0, 0, 0, 1, ONE, ADD);
        bad(ONE, 5, 0, 0, 0, 0, 1, ADD);
        bad(ONE, ADD);
        good(1, 2, 1, 3, SUB, 4, 255, 255, 255, 255, EQUAL);
        good(4, 128, 0, 0, 0, ONE, SUB, 4, 127, 255, 255, 255, EQUAL);
        bad(1, 2, 1, 2, SUB);
        bad(ONE, SUB);
        good(1, 2, 1, 3, LESS);
        bad(1, 3, 1, 3, LESS);
        bad(1, 4, 1, 3, LESS);
        good(1, 128, 0, LESS);
        good(4, 128, 0, 0, 0, 4, 127, 255, 255, 255, LESS);
        bad(ONE, 5, 0, 0, 0, 0, 9, LESS);
        bad(ONE, LESS);
        good(ONE, 5, 0, 0, 0, 0, 1, AND);
        good(1, 2, 1, 1, AND);
        bad(ONE, 0, AND);
        bad(0, ONE, AND);
        bad(0, 0, AND);
        bad(ONE, AND);
    }

    /** What is below what an op takes stays, and nothing else does. */
    private static void depths() {
        int[][] ops = {{DUP, DROP, DROP}, {DROP}, {0, SWAP, DROP, DROP}, {0, OVER, DROP, DROP, DROP}, {SIZE, DROP, DROP},
            {0, EQUAL, DROP}, {VERIFY}, {NOT, DROP}, {ONE, ADD, DROP}, {ONE, SUB, DROP}, {ONE, LESS, DROP},
            {ONE, AND, DROP}, {SHA, DROP}, {HASH, DROP}, {ONE, SIGNED, DROP}, {AFTER}, {IF, END}, {UNLESS, END},
            {ONE, DROP, DROP}, {0, 0, MANY, DROP, DROP}};
        for (int[] op : ops) {
            good(with(with(new int[] {1, 9, ONE}, op), 1, 9, EQUAL));
            bad(with(with(new int[] {0, ONE}, op)));
        }
        // What was there before leaves no trace in a shorter element.
        bad(1, 5, DROP, 0);
        good(1, 5, DROP, 0, NOT);
        bad(2, 5, 5, DROP, 1, 0);
    }

    /** A script that fails leaves nothing behind for the next one. */
    private static void oneAfterAnother() {
        int[][] failing = {{0, IF}, {ONE, IF, BAD}, {ONE, ONE, IF}, times(25, ONE), {0, IF, 5}};
        for (int[] key : failing) {
            Rig rig = new Rig();
            Model.Tx first = Rig.first(1, 50, new byte[0]);
            rig.block(Rig.mined(Rig.ZEROS, 10, 32768, first));
            rig.growTip(6);
            Model.Tx tx = Rig.payment(47, new byte[0], Rig.coin(first, 0));
            Rig.due("fails", rig.pay(Rig.keyed(tx, bytes(key, new byte[32])).bytes), Model.RULE);
            Rig.due("empty", rig.pay(Rig.keyed(tx).bytes), Model.RULE);
            Rig.due("fails", rig.pay(Rig.keyed(tx, bytes(key, new byte[32])).bytes), Model.RULE);
            Rig.due("next", rig.pay(Rig.keyed(tx, Model.bytes(102)).bytes), 3);
        }
    }

    private static void hashes() {
        byte[] sha = Model.sha(Model.bytes(1, 2, 3));
        byte[] hash = Model.hash(Model.bytes(1, 2, 3));
        good(with(with(new int[] {3, 1, 2, 3, SHA, 32}, ints(sha)), EQUAL));
        good(with(with(new int[] {3, 1, 2, 3, HASH, 32}, ints(hash)), EQUAL));
        bad(with(with(new int[] {3, 1, 2, 3, SHA, 32}, ints(hash)), EQUAL));
        good(3, 1, 2, 3, SHA, SHA, 3, 1, 2, 3, HASH, EQUAL);
        good(with(with(new int[] {0, SHA, 32}, ints(Model.sha(new byte[0]))), EQUAL));
        // Elements whose padding fills one chunk of 64 bytes, and needs another.
        for (int n : new int[] {55, 56, 63, 64, 65, 75}) {
            byte[] of = new byte[n];
            Arrays.fill(of, (byte) n);
            int[] lock = with(with(new int[] {SHA, 32}, ints(Model.sha(of))), EQUAL);
            check(true, lock, with(new int[] {n}, ints(of)));
        }
        bad(SHA);
        bad(HASH);
    }

    private static int[] ints(byte[] of) {
        int[] all = new int[of.length];
        for (int i = 0; i < all.length; i++) {
            all[i] = of[i] & 255;
        }
        return all;
    }

    private static void signatures() {
        good(SIGN_1, 1, 1, SIGNED);
        bad(SIGN_1, 1, 2, SIGNED);
        good(SIGN_1, 1, 2, SIGNED, NOT);
        bad(1, 1, SIGN_1, SIGNED);
        bad(1, 1, SIGNED);
        good(0, 1, 1, SIGNED, NOT);
        good(SIGN_1, 2, 0, 1, SIGNED, NOT);
        good(0, 0, MANY);
        good(0, 1, 1, ONE, MANY);
        good(SIGN_1, 1, 1, 1, 1, 1, 1, MANY);
        good(SIGN_1, SIGN_3, 1, 2, 1, 1, 1, 2, 1, 3, 1, 3, MANY);
        good(SIGN_2, SIGN_3, 1, 2, 1, 1, 1, 2, 1, 3, 1, 3, MANY);
        good(SIGN_1, SIGN_2, SIGN_3, 1, 3, 1, 1, 1, 2, 1, 3, 1, 3, MANY);
        bad(SIGN_3, SIGN_1, 1, 2, 1, 1, 1, 2, 1, 3, 1, 3, MANY);
        good(SIGN_3, SIGN_1, 1, 2, 1, 1, 1, 2, 1, 3, 1, 3, MANY, NOT);
        bad(SIGN_1, SIGN_1, 1, 2, 1, 1, 1, 2, 1, 2, MANY);
        good(SIGN_1, SIGN_1, 1, 2, 1, 1, 1, 1, 1, 2, MANY);
        bad(SIGN_1, ONE, 1, 1, 1, 2, MANY);
        bad(SIGN_1, 1, 2, 1, 1, 1, 1, MANY);
        bad(ONE, 1, 255, 1, 1, 1, 1, MANY);
        bad(ONE, 1, 0, 1, 255, MANY);
        bad(0, 5, 0, 0, 0, 0, 0, MANY);
        bad(5, 0, 0, 0, 0, 0, 0, MANY);
        bad(MANY);
        bad(0, MANY);
        bad(SIGN_1, 1, 2, 1, 1, 1, 2, 1, 2, MANY);
        int[] eightKeys = {1, 1, 1, 1, 1, 1, 1, 1, 1, 1, 1, 1, 1, 1, 1, 2};
        good(with(with(new int[] {SIGN_1, SIGN_2, 1, 2}, eightKeys), 1, 8, MANY));
        bad(with(with(new int[] {SIGN_1, SIGN_2, 1, 2, 1, 1}, eightKeys), 1, 9, MANY));
        // What lies below the signatures stays.
        good(1, 7, SIGN_1, ONE, 1, 1, ONE, MANY, DROP, 1, 7, EQUAL);
    }

    private static void heights() {
        good(ONE, 1, 8, AFTER);
        bad(ONE, 1, 9, AFTER);
        good(ONE, 1, 255, AFTER);
        good(ONE, 0, AFTER);
        bad(1, 1, AFTER);
        bad(ONE, 5, 0, 0, 0, 0, 1, AFTER);
        bad(AFTER);
    }

    private static void branches() {
        good(ONE, IF, ONE, END);
        bad(0, IF, ONE, END);
        good(0, UNLESS, ONE, END);
        bad(ONE, UNLESS, ONE, END);
        good(ONE, IF, ONE, ELSE, 0, END);
        good(0, IF, 0, ELSE, ONE, END);
        good(ONE, UNLESS, BAD, ELSE, ONE, END);
        // Each ELSE turns round once more.
        good(ONE, IF, 1, 2, ELSE, BAD, ELSE, ONE, EQUAL, NOT, END);
        good(0, IF, BAD, ELSE, ONE, ELSE, BAD, END);
        bad(IF, END);
        bad(IF, ONE);
        bad(UNLESS, END, ONE);
        bad(ONE, ELSE);
        bad(ONE, END);
        bad(ONE, ONE, IF);
        bad(ONE, 0, IF);
        bad(ONE, 0, IF, ELSE);
        bad(ONE, ONE, IF, END, END);
        // Inner ones of what is not done take nothing, and their ELSE does nothing.
        good(ONE, 0, IF, IF, BAD, ELSE, BAD, END, END);
        good(0, IF, UNLESS, BAD, ELSE, BAD, END, ELSE, ONE, END);
        good(ONE, IF, 0, IF, BAD, ELSE, ONE, END, END);
        bad(ONE, 0, IF, IF, END);
        // Elements that are passed over have their bytes, which are no ENDs, and must be there.
        good(ONE, 0, IF, 2, END, END, END);
        bad(ONE, 0, IF, 3, END, END);
        good(with(with(with(new int[] {ONE, 0}, times(39, IF)), times(39, END))));
        good(with(times(24, ONE), IF, 0, END, DROP));
        good(ONE, 0, IF, 76, 84, 200, END);
    }

    private static void twoScripts() {
        check(true, new int[] {EQUAL}, new int[] {1, 7, 1, 7});
        check(false, new int[] {EQUAL}, new int[] {1, 7, 1, 8});
        check(true, new int[] {1, 1, SIGNED}, new int[] {SIGN_1});
        check(false, new int[] {1, 1, SIGNED}, new int[] {SIGN_2});
        check(false, new int[] {1, 1, SIGNED}, new int[] {});
        check(false, new int[] {END}, new int[] {ONE, ONE, IF});
        check(false, new int[] {ELSE, END}, new int[] {ONE, ONE, IF});
        check(false, new int[] {ONE}, new int[] {BAD});
        check(false, new int[] {BAD}, new int[] {ONE});
        check(false, new int[] {DROP}, new int[] {ONE});
        check(false, new int[] {0}, new int[] {ONE});
        check(true, new int[] {ONE}, new int[] {0});
        check(false, new int[] {ONE, DUP}, times(23, ONE));
        check(false, new int[] {1, 9, AFTER, ONE}, new int[] {});
        check(true, new int[] {1, 8, AFTER, ONE}, new int[] {});
    }
}

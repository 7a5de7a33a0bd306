import java.util.Arrays;

/**
 * Scripts, sentence by sentence: what each byte needs and does, the last case that succeeds and the first that
 * fails.
 */
public final class ScriptsTest {
    private static final int ONE = 102, DUP = 80, DROP = 81, SWAP = 82, OVER = 83, SIZE = 85;
    private static final int EQUAL = 86, VERIFY = 87, NOT = 88, ADD = 89, SUB = 90, LESS = 91, AND = 92;
    private static final int SHA = 93, HASH = 94, SIGNED = 95, AFTER = 96;
    private static final int IF = 97, UNLESS = 98, ELSE = 99, END = 100, BAD = 101, MANY = 103;
    /** Stand for the signatures of the keys of one byte, 1 to 8, in the scripts below. */
    private static final int SIGN_1 = -1, SIGN_2 = -2, SIGN_3 = -3, SIGN_4 = -4, SIGN_5 = -5, SIGN_6 = -6, SIGN_7 = -7,
            SIGN_8 = -8;

    public static void main(String[] args) {
        stackAtMost();
        stackAtFirst();
        oneStack();
        nothingFails();
        eachHasItsEnds();
        lastIsTrue();
        bytesOfNumbers();
        signOfNumbers();
        writtenNumbers();
        tooFewOrTooMany();
        elements();
        otherBytes();
        moving();
        sizes();
        comparing();
        verifying();
        turning();
        wrapping();
        less();
        both();
        depths();
        oneAfterAnother();
        hashes();
        signatures();
        signHash();
        heights();
        branches();
        manyKeys();
        manySignatures();
        manyInOrder();
        passedOver();
        elseTurns();
        elseAndEndAlone();
        Rig.finish("ScriptsTest");
    }

    private static void good(int... key) {
        check(true, new int[0], key);
    }

    private static void bad(int... key) {
        check(false, new int[0], key);
    }

    /** Pays a coin of the lock, with the key, at height 8. */
    private static void check(boolean succeeds, int[] lock, int[] key) {
        Model.Tx first = coinOf(lock);
        Rig rig = Rig.withCoins(first);
        Model.Tx tx = Rig.payment(47, Model.keyLock(1), Rig.coin(first, 0));
        byte[] script = bytes(key, tx.signHash());
        String text = "lock " + Arrays.toString(lock) + " key " + Arrays.toString(key);
        Rig.due(text, rig.pay(Rig.keyed(tx, script).bytes), succeeds ? 3 : Model.RULE);
    }

    private static Model.Tx coinOf(int[] lock) {
        return Rig.first(1, 50, bytes(lock, new byte[32]));
    }

    private static byte[] bytes(int[] of, byte[] signHash) {
        byte[] all = new byte[0];
        for (int b : of) {
            byte[] more = b >= 0 ? Model.bytes(b) : Maker.pushSignature(Model.bytes(-b), signHash);
            all = Model.join(all, more);
        }
        return all;
    }

    private static int[] with(int[] head, int... tail) {
        int[] all = Arrays.copyOf(head, head.length + tail.length);
        System.arraycopy(tail, 0, all, head.length, tail.length);
        return all;
    }

    private static int[] times(int n, int op) {
        int[] all = new int[n];
        Arrays.fill(all, op);
        return all;
    }

    private static void stackAtMost() {
        Rig.says("on one STACK of at most 24 ELEMENTS of at most 80 bytes");
        good(times(24, ONE));
        bad(times(25, ONE));
        bad(with(times(24, ONE), 0));
        good(with(times(23, ONE), DUP));
        bad(with(times(24, ONE), DUP, DROP));
        good(with(times(23, ONE), OVER));
        bad(with(times(24, ONE), OVER, DROP));
        good(with(times(23, ONE), SIZE));
        bad(with(times(24, ONE), SIZE, DROP));
        good(with(times(24, ONE), DROP, ONE));
        good(with(times(24, ONE), SWAP));
        good(with(times(24, ONE), EQUAL, ONE));
        // The longest element that a script can give.
        check(true, new int[] {SIZE, 1, 75, SUB, NOT}, with(new int[] {75}, times(75, 7)));
    }

    private static void stackAtFirst() {
        Rig.says("on one STACK of at most 24 ELEMENTS of at most 80 bytes, none at first");
        bad();
        bad(DROP, ONE);
        good(ONE, DROP, ONE);
        bad(ONE, DROP, DROP, ONE);
    }

    private static void oneStack() {
        Rig.says("SCRIPTS of an INPUT: its KEY SCRIPT, then the LOCK SCRIPT of the COIN, on one STACK");
        check(true, new int[] {EQUAL}, new int[] {1, 7, 1, 7});
        check(false, new int[] {EQUAL}, new int[] {1, 7, 1, 8});
        check(false, new int[] {1, 7, 1, 7}, new int[] {EQUAL});
        check(true, new int[] {1, 1, SIGNED}, new int[] {SIGN_1});
        check(false, new int[] {1, 1, SIGNED}, new int[] {SIGN_2});
        check(false, new int[] {1, 1, SIGNED}, new int[] {});
        check(true, new int[] {ONE}, times(23, ONE));
        check(false, new int[] {ONE}, times(24, ONE));
        check(false, new int[] {ONE, DUP}, times(23, ONE));
        check(true, new int[] {}, new int[] {ONE});
        check(true, new int[] {ONE}, new int[] {});
        check(false, new int[] {}, new int[] {});
        check(true, times(24, ONE), new int[] {});
        check(false, times(25, ONE), new int[] {});
    }

    private static void nothingFails() {
        Rig.says("they succeed if nothing fails");
        check(false, new int[] {ONE}, new int[] {BAD});
        check(false, new int[] {BAD}, new int[] {ONE});
        check(false, new int[] {ONE}, new int[] {ONE, 5});
        check(false, new int[] {ONE, 5}, new int[] {ONE});
        check(true, new int[] {ONE}, new int[] {ONE, 0});
    }

    private static void eachHasItsEnds() {
        Rig.says("each has its ENDs");
        check(false, new int[] {END}, new int[] {ONE, ONE, IF});
        check(false, new int[] {ELSE, END}, new int[] {ONE, ONE, IF});
        check(false, new int[] {ONE, ONE, IF}, new int[] {});
        check(true, new int[] {ONE, ONE, IF, END}, new int[] {});
        check(true, new int[] {IF, ONE, END}, new int[] {ONE, ONE, IF, END});
        bad(ONE, ONE, IF);
        bad(ONE, 0, IF);
        bad(ONE, 0, IF, ELSE);
        bad(ONE, 0, UNLESS);
        bad(ONE, ONE, ONE, IF, IF, END);
        good(ONE, ONE, ONE, IF, IF, END, END);
        bad(ONE, ONE, ONE, IF, IF, END, END, END);
        // As many as there can be.
        good(with(with(new int[] {ONE, 0}, times(39, IF)), times(39, END)));
        bad(with(with(new int[] {ONE, 0}, times(39, IF)), times(38, END)));
        bad(with(new int[] {0}, times(79, IF)));
        bad(with(new int[] {0}, times(79, UNLESS)));
        bad(with(new int[] {0, IF}, times(78, ELSE)));
    }

    private static void lastIsTrue() {
        Rig.says("the last ELEMENT is true (has a byte that is not 0)");
        bad(0);
        bad(1, 0);
        bad(3, 0, 0, 0);
        good(1, 1);
        good(1, 128);
        good(3, 0, 0, 1);
        good(3, 1, 0, 0);
        check(false, new int[] {}, with(new int[] {75}, times(75, 0)));
        check(true, new int[] {}, with(with(new int[] {75}, times(74, 0)), 1));
        check(false, new int[] {0}, new int[] {ONE});
        check(true, new int[] {ONE}, new int[] {0});
        check(false, new int[] {DROP}, new int[] {ONE});
    }

    private static void bytesOfNumbers() {
        Rig.says("As a number an ELEMENT has 0 to 4 bytes, the highest first");
        good(0, NOT);
        good(4, 0, 0, 0, 0, NOT);
        bad(5, 0, 0, 0, 0, 0, NOT);
        good(0, ONE, ADD);
        good(ONE, 0, ADD);
        good(4, 0, 0, 0, 1, ONE, ADD);
        bad(5, 0, 0, 0, 0, 1, ONE, ADD);
        bad(ONE, 5, 0, 0, 0, 0, 1, ADD);
        good(4, 0, 0, 0, 2, ONE, SUB);
        bad(5, 0, 0, 0, 0, 2, ONE, SUB);
        bad(ONE, 5, 0, 0, 0, 0, 2, SUB);
        good(4, 0, 0, 0, 0, 4, 0, 0, 0, 9, LESS);
        bad(5, 0, 0, 0, 0, 0, 4, 0, 0, 0, 9, LESS);
        bad(4, 0, 0, 0, 0, 5, 0, 0, 0, 0, 9, LESS);
        good(ONE, 4, 0, 0, 0, 1, AFTER);
        bad(ONE, 5, 0, 0, 0, 0, 1, AFTER);
        good(0, 4, 0, 0, 0, 0, MANY);
        bad(0, 5, 0, 0, 0, 0, 0, MANY);
        good(4, 0, 0, 0, 0, 0, MANY);
        bad(5, 0, 0, 0, 0, 0, 0, MANY);
        good(4, 1, 2, 3, 4, 4, 1, 2, 3, 3, SUB, ONE, EQUAL);
        good(2, 1, 0, ONE, ADD, 4, 0, 0, 1, 1, EQUAL);
        // Where no number is due there may be more.
        good(ONE, 5, 0, 0, 0, 0, 1, AND);
        good(5, 0, 0, 0, 0, 1, 5, 0, 0, 0, 0, 1, EQUAL);
    }

    private static void signOfNumbers() {
        Rig.says("with a sign (the highest bit of its first byte, however many it has)");
        int[][] same = {
            {1, 127, 0, 0, 0, 127}, {1, 128, 255, 255, 255, 128}, {1, 255, 255, 255, 255, 255},
            {2, 127, 255, 0, 0, 127, 255}, {2, 128, 0, 255, 255, 128, 0}, {2, 0, 128, 0, 0, 0, 128},
            {2, 255, 0, 255, 255, 255, 0}, {3, 127, 255, 255, 0, 127, 255, 255}, {3, 128, 0, 0, 255, 128, 0, 0},
            {3, 0, 128, 0, 0, 0, 128, 0}, {4, 127, 255, 255, 255, 127, 255, 255, 255}, {4, 128, 0, 0, 0, 128, 0, 0, 0},
        };
        for (int[] c : same) {
            int[] element = Arrays.copyOf(c, c[0] + 1);
            int[] written = Arrays.copyOfRange(c, c[0] + 1, c[0] + 5);
            good(with(with(with(element, 0, ADD, 4), written), EQUAL));
        }
        good(1, 128, 0, LESS);
        bad(1, 127, 0, LESS);
        good(2, 128, 0, 0, LESS);
        bad(2, 0, 128, 0, LESS);
    }

    private static void writtenNumbers() {
        Rig.says("Numbers are written as 4 bytes, 0 without any.");
        good(ONE, 4, 0, 0, 0, 1, EQUAL);
        good(1, 1, 1, 255, ADD, 0, EQUAL);
        good(1, 1, 1, 255, ADD, SIZE, 0, EQUAL);
        good(1, 1, 0, ADD, SIZE, 1, 4, SUB, NOT);
        good(1, 5, 1, 5, EQUAL, 4, 0, 0, 0, 1, EQUAL);
        good(1, 5, 1, 6, EQUAL, 0, EQUAL);
        good(1, 5, NOT, 0, EQUAL);
        good(0, SIZE, 0, EQUAL);
        bad(0, SIZE, 1, 0, EQUAL);
    }

    private static void tooFewOrTooMany() {
        Rig.says("Too few ELEMENTS, or too many, fail.");
        int[][] ones = {{DUP}, {DROP, ONE}, {SIZE, ONE}, {VERIFY, ONE}, {NOT, ONE}, {SHA, ONE}, {HASH, ONE}, {AFTER, ONE},
            {IF, END, ONE}, {UNLESS, END, ONE}};
        for (int[] op : ones) {
            bad(op);
            good(with(new int[] {ONE}, with(op, ONE)));
        }
        int[][] twos = {{SWAP}, {OVER}, {EQUAL}, {ADD}, {SUB}, {LESS}, {AND}, {SIGNED}, {MANY}};
        for (int[] op : twos) {
            bad(with(op, ONE));
            bad(with(new int[] {0}, with(op, ONE)));
            good(with(new int[] {0, 0}, with(op, ONE)));
        }
        bad(IF, ONE);
        bad(UNLESS, ONE);
        bad(VERIFY);
        good(with(with(times(24, 0), SIGNED), ONE));
        good(with(with(times(24, 0), MANY), ONE));
    }

    private static void elements() {
        Rig.says("0 to 75: an ELEMENT of so many bytes that follow (fails if there are less)");
        good(0, NOT);
        bad(1);
        good(1, 1);
        bad(2, 1);
        good(2, 1, 1);
        good(with(with(new int[] {75}, times(75, 7)), ONE));
        good(with(new int[] {75}, times(75, 7)));
        bad(with(new int[] {75}, times(74, 7)));
        bad(with(new int[] {76}, times(76, 7)));
        bad(with(new int[] {75}, new int[0]));
        // The bytes of an element are no bytes of the script.
        good(2, BAD, BAD);
        good(1, 75, DROP, ONE);
        // What follows the key script's end is not its own.
        check(false, new int[] {ONE}, new int[] {1});
        check(false, new int[] {1}, new int[] {ONE});
    }

    private static void otherBytes() {
        Rig.says("101 fails.");
        bad(ONE, BAD);
        bad(ONE, ONE, IF, BAD, END);
        good(ONE, 0, IF, BAD, END);
        Rig.says("Others fail.");
        for (int op = 76; op <= 255; op++) {
            if (op < DUP || op > MANY || op == 84) {
                bad(ONE, ONE, op);
                bad(ONE, op, ONE);
                good(0, IF, op, END, ONE);
            }
        }
    }

    private static void moving() {
        Rig.says("80 DUP (the last one again). 81 DROP. 82 SWAP (the last two). 83 OVER (the last but one again).");
        good(1, 5, DUP, EQUAL);
        good(0, 1, 5, DUP, 1, 5, EQUAL, VERIFY, 1, 5, EQUAL);
        good(1, 5, 0, DROP);
        bad(ONE, DROP);
        good(0, 1, 5, SWAP, DROP);
        bad(1, 5, 0, SWAP, DROP, VERIFY);
        good(1, 9, 2, 1, 2, SWAP, 1, 9, EQUAL, VERIFY, 2, 1, 2, EQUAL);
        good(1, 7, 0, OVER, 1, 7, EQUAL);
        good(1, 7, 0, OVER, DROP, NOT);
    }

    private static void sizes() {
        Rig.says("85 SIZE (a number: how many bytes the last one has, which stays).");
        good(3, 1, 2, 3, SIZE, 4, 0, 0, 0, 3, EQUAL);
        good(3, 1, 2, 3, SIZE, DROP, 3, 1, 2, 3, EQUAL);
        good(0, SIZE, 0, EQUAL);
        check(true, new int[] {SIZE, 1, 75, SUB, NOT}, with(new int[] {75}, times(75, 7)));
        good(0, SHA, SIZE, 1, 32, SUB, NOT);
        good(0, HASH, SIZE, 1, 32, SUB, NOT);
    }

    private static void comparing() {
        Rig.says("86 EQUAL (two go; 1 or 0).");
        good(2, 1, 2, 2, 1, 2, EQUAL);
        bad(2, 1, 2, 2, 1, 3, EQUAL);
        bad(2, 1, 2, 2, 3, 2, EQUAL);
        bad(2, 1, 2, 1, 1, EQUAL);
        bad(1, 1, 2, 1, 2, EQUAL);
        bad(1, 0, 0, EQUAL);
        good(0, 0, EQUAL);
        bad(1, 1, 4, 0, 0, 0, 1, EQUAL);
    }

    private static void verifying() {
        Rig.says("87 VERIFY (one goes; fails if it is not true).");
        good(ONE, ONE, VERIFY);
        good(ONE, 2, 0, 1, VERIFY);
        bad(ONE, 0, VERIFY);
        bad(ONE, 2, 0, 0, VERIFY);
        bad(0, ONE, VERIFY);
    }

    private static void turning() {
        Rig.says("88 NOT (a number: 1 for 0, else 0).");
        good(0, NOT);
        good(1, 0, NOT);
        bad(1, 1, NOT);
        bad(1, 255, NOT);
        bad(4, 128, 0, 0, 0, NOT);
        good(0, NOT, ONE, EQUAL);
        good(1, 2, NOT, 0, EQUAL);
    }

    private static void wrapping() {
        Rig.says("89 ADD, 90 SUB, 91 LESS (numbers a, then b: a + b, a - b, 1 if a is less, else 0; wrapping).");
        good(1, 2, 1, 3, ADD, 4, 0, 0, 0, 5, EQUAL);
        good(1, 2, 1, 255, ADD, ONE, EQUAL);
        good(4, 127, 255, 255, 254, ONE, ADD, 4, 127, 255, 255, 255, EQUAL);
        good(4, 127, 255, 255, 255, ONE, ADD, 4, 128, 0, 0, 0, EQUAL);
        good(4, 128, 0, 0, 0, 1, 255, ADD, 4, 127, 255, 255, 255, EQUAL);
        good(4, 128, 0, 0, 0, 4, 128, 0, 0, 0, ADD, 0, EQUAL);
        good(1, 2, 1, 3, SUB, 4, 255, 255, 255, 255, EQUAL);
        good(1, 3, 1, 2, SUB, ONE, EQUAL);
        bad(1, 2, 1, 2, SUB);
        good(4, 128, 0, 0, 1, ONE, SUB, 4, 128, 0, 0, 0, EQUAL);
        good(4, 128, 0, 0, 0, ONE, SUB, 4, 127, 255, 255, 255, EQUAL);
        good(4, 127, 255, 255, 255, 1, 255, SUB, 4, 128, 0, 0, 0, EQUAL);
        good(0, 4, 128, 0, 0, 0, SUB, 4, 128, 0, 0, 0, EQUAL);
    }

    private static void less() {
        Rig.says("89 ADD, 90 SUB, 91 LESS (numbers a, then b: a + b, a - b, 1 if a is less, else 0; wrapping).");
        good(1, 2, 1, 3, LESS);
        bad(1, 3, 1, 3, LESS);
        bad(1, 4, 1, 3, LESS);
        good(1, 255, 0, LESS);
        bad(0, 1, 255, LESS);
        // What is less is so though the difference would wrap.
        good(4, 128, 0, 0, 0, 4, 127, 255, 255, 255, LESS);
        bad(4, 127, 255, 255, 255, 4, 128, 0, 0, 0, LESS);
        good(1, 2, 1, 3, LESS, ONE, EQUAL);
        good(1, 3, 1, 3, LESS, 0, EQUAL);
    }

    private static void both() {
        Rig.says("92 AND (two go: 1 if both are true, else 0).");
        good(1, 2, 1, 1, AND);
        good(1, 2, 1, 1, AND, ONE, EQUAL);
        bad(ONE, 0, AND);
        bad(0, ONE, AND);
        bad(0, 0, AND);
        bad(2, 0, 0, ONE, AND);
        good(ONE, 0, AND, 0, EQUAL);
    }

    /** What is below what an op takes stays, and nothing else does. */
    private static void depths() {
        Rig.says("on one STACK");
        int[][] ops = {{DUP, DROP, DROP}, {DROP}, {0, SWAP, DROP, DROP}, {0, OVER, DROP, DROP, DROP}, {SIZE, DROP, DROP},
            {0, EQUAL, DROP}, {VERIFY}, {NOT, DROP}, {ONE, ADD, DROP}, {ONE, SUB, DROP}, {ONE, LESS, DROP},
            {ONE, AND, DROP}, {SHA, DROP}, {HASH, DROP}, {ONE, SIGNED, DROP}, {AFTER}, {IF, END}, {UNLESS, END},
            {ONE, DROP, DROP}, {0, 0, MANY, DROP, DROP}};
        for (int[] op : ops) {
            good(with(with(new int[] {1, 9, ONE}, op), 1, 9, EQUAL));
            bad(with(with(new int[] {0, ONE}, op)));
        }
        // What was there before leaves no trace in a shorter element.
        bad(1, 5, DROP, 0);
        good(1, 5, DROP, 0, NOT);
        bad(2, 5, 5, DROP, 1, 0);
    }

    /** A script that fails leaves nothing behind for the next one. */
    private static void oneAfterAnother() {
        Rig.says("on one STACK of at most 24 ELEMENTS of at most 80 bytes, none at first");
        int[][] failing = {{0, IF}, {ONE, IF, BAD}, {ONE, ONE, IF}, times(25, ONE), {0, IF, 5}};
        for (int[] key : failing) {
            Rig rig = new Rig();
            Model.Tx first = Rig.first(1, 50, new byte[0]);
            rig.block(Rig.mined(Rig.ZEROS, 10, 32768, first));
            rig.growTip(6);
            Model.Tx tx = Rig.payment(47, new byte[0], Rig.coin(first, 0));
            Rig.due("fails", rig.pay(Rig.keyed(tx, bytes(key, new byte[32])).bytes), Model.RULE);
            Rig.due("empty", rig.pay(Rig.keyed(tx).bytes), Model.RULE);
            Rig.due("fails", rig.pay(Rig.keyed(tx, bytes(key, new byte[32])).bytes), Model.RULE);
            Rig.due("next", rig.pay(Rig.keyed(tx, Model.bytes(102)).bytes), 3);
        }
    }

    private static void hashes() {
        Rig.says("93 SHA (its SHA-256). 94 HASH.");
        byte[] sha = Model.sha(Model.bytes(1, 2, 3));
        byte[] hash = Model.hash(Model.bytes(1, 2, 3));
        good(with(with(new int[] {3, 1, 2, 3, SHA, 32}, ints(sha)), EQUAL));
        good(with(with(new int[] {3, 1, 2, 3, HASH, 32}, ints(hash)), EQUAL));
        bad(with(with(new int[] {3, 1, 2, 3, SHA, 32}, ints(hash)), EQUAL));
        good(3, 1, 2, 3, SHA, SHA, 3, 1, 2, 3, HASH, EQUAL);
        good(with(with(new int[] {0, SHA, 32}, ints(Model.sha(new byte[0]))), EQUAL));
        // Elements whose padding fills one chunk of 64 bytes, and needs another.
        for (int n : new int[] {55, 56, 63, 64, 65, 75}) {
            byte[] of = new byte[n];
            Arrays.fill(of, (byte) n);
            int[] lock = with(with(new int[] {SHA, 32}, ints(Model.sha(of))), EQUAL);
            check(true, lock, with(new int[] {n}, ints(of)));
        }
    }

    private static int[] ints(byte[] of) {
        int[] all = new int[of.length];
        for (int i = 0; i < all.length; i++) {
            all[i] = of[i] & 255;
        }
        return all;
    }

    private static void signatures() {
        Rig.says("95 SIGNED (a SIGNATURE, then a KEY go: 1 if it is that of the KEY for the TRANSACTION: the first 8 bytes");
        good(SIGN_1, 1, 1, SIGNED);
        good(SIGN_1, 1, 1, SIGNED, ONE, EQUAL);
        bad(SIGN_1, 1, 2, SIGNED);
        good(SIGN_1, 1, 2, SIGNED, 0, EQUAL);
        bad(1, 1, SIGN_1, SIGNED);
        good(0, 1, 1, SIGNED, NOT);
        good(SIGN_1, 2, 0, 1, SIGNED, NOT);
        good(SIGN_1, 0, SIGNED, NOT);
        // A key of no bytes, of four, and of as many as there can be.
        int[][] keys = {{}, {0, 0, 0, 1}, times(75, 200)};
        for (int[] key : keys) {
            for (int bytes = 7; bytes <= 9; bytes++) {
                signedWith(key, bytes, bytes == 8);
            }
        }
    }

    /** So many of the first bytes of the hash as signature, with a lock of this key. */
    private static void signedWith(int[] key, int bytes, boolean succeeds) {
        Model.Tx tx = Rig.payment(47, Model.keyLock(1), Rig.coin(coinOf(with(with(new int[] {key.length}, key), SIGNED)), 0));
        byte[] hash = Model.hash(Model.join(bytes(key, new byte[0]), tx.signHash()));
        check(succeeds, with(with(new int[] {key.length}, key), SIGNED),
                with(new int[] {bytes}, ints(Arrays.copyOf(hash, bytes))));
    }

    private static void signHash() {
        Rig.says("SIGN HASH: the HASH of its bytes with all KEY SCRIPTS empty.");
        Model.Tx coins = Rig.first(1, 50, Model.keyLock(3), Model.keyLock(4));
        Model.Tx tx = Rig.payment(90, new byte[0], Rig.coin(coins, 0), Rig.coin(coins, 1));
        byte[] signHash = tx.signHash();
        tx.ins.get(0).key = Maker.pushSignature(Model.number(3), signHash);
        tx.ins.get(1).key = Maker.pushSignature(Model.number(4), signHash);
        Rig.due("both signed", Rig.withCoins(coins).pay(tx.write()), 10);
        // An element before the signature changes no hash.
        tx.ins.get(0).key = Model.join(Model.bytes(1, 9), tx.ins.get(0).key);
        Rig.due("another key script", Rig.withCoins(coins).pay(tx.write()), 10);
        byte[] changed = tx.write();
        changed[3] = 1;
        Rig.due("another lock", Rig.withCoins(coins).pay(changed), Model.RULE);
        tx.ins.get(1).key = Maker.pushSignature(Model.number(3), signHash);
        Rig.due("signed by the other", Rig.withCoins(coins).pay(tx.write()), Model.RULE);
    }

    private static void heights() {
        Rig.says("96 AFTER (a number goes; fails if the HEIGHT of the BLOCK is below it).");
        good(ONE, 1, 7, AFTER);
        good(ONE, 1, 8, AFTER);
        bad(ONE, 1, 9, AFTER);
        good(ONE, 0, AFTER);
        good(ONE, 1, 255, AFTER);
        good(ONE, 4, 128, 0, 0, 0, AFTER);
        bad(ONE, 4, 127, 255, 255, 255, AFTER);
        bad(1, 1, AFTER);
        check(false, new int[] {1, 9, AFTER, ONE}, new int[] {});
        check(true, new int[] {1, 8, AFTER, ONE}, new int[] {});
    }

    private static void branches() {
        Rig.says("97 IF, 98 UNLESS (one goes: what follows is done if it is true, or not), 99 ELSE, 100 END.");
        good(ONE, IF, ONE, END);
        bad(0, IF, ONE, END);
        good(0, UNLESS, ONE, END);
        bad(ONE, UNLESS, ONE, END);
        good(ONE, IF, ONE, ELSE, 0, END);
        good(0, IF, 0, ELSE, ONE, END);
        good(ONE, UNLESS, BAD, ELSE, ONE, END);
        good(ONE, 3, 0, 0, 1, IF, ONE, EQUAL, NOT, NOT, END);
        bad(ONE, 3, 0, 0, 1, IF, BAD, END);
        good(ONE, 3, 0, 0, 0, IF, BAD, END);
        good(ONE, 5, 0, 0, 0, 0, 1, UNLESS, BAD, END);
        good(ONE, ONE, IF, END);
        bad(0, ONE, IF, END);
        good(ONE, IF, 0, IF, BAD, ELSE, ONE, END, END);
    }

    private static int[] keys(int n) {
        int[] keys = new int[0];
        for (int i = 1; i <= n; i++) {
            keys = with(keys, 1, i);
        }
        return keys;
    }

    private static void manyKeys() {
        Rig.says("103 MANY (from the last ELEMENT on down: a number n, 0 to 8, n KEYS");
        good(0, 0, MANY);
        for (int n = 0; n <= 10; n++) {
            int[] script = with(with(new int[] {0}, keys(n)), 1, n, MANY);
            check(n <= 8, new int[] {}, script);
        }
        bad(with(with(new int[] {0}, keys(8)), 1, 255, MANY));
        bad(with(with(new int[] {0}, keys(8)), 4, 128, 0, 0, 0, MANY));
        bad(with(with(new int[] {0}, keys(8)), 2, 1, 0, MANY));
        // One key, or what tells how many signatures there are, is missing.
        bad(0, MANY);
        bad(1, 1, ONE, MANY);
        bad(0, ONE, MANY);
        good(0, 0, ONE, MANY);
        bad(with(keys(7), 1, 8, MANY));
        bad(with(keys(8), 1, 8, MANY));
    }

    private static void manySignatures() {
        Rig.says("a number m, 0 to n, m SIGNATURES: all go");
        for (int m = 0; m <= 4; m++) {
            int[] signatures = Arrays.copyOf(new int[] {SIGN_1, SIGN_2, SIGN_3, SIGN_3}, m);
            int[] script = with(with(with(signatures, 1, m), keys(3)), 1, 3, MANY);
            check(m <= 3, new int[] {}, script);
        }
        bad(SIGN_1, 1, 255, 1, 1, ONE, MANY);
        bad(SIGN_1, 4, 128, 0, 0, 0, 1, 1, ONE, MANY);
        bad(ONE, 0, MANY);
        // A signature is missing.
        bad(SIGN_1, 1, 2, 1, 1, 1, 2, 1, 2, MANY);
        bad(ONE, 1, 1, ONE, MANY);
        good(SIGN_1, ONE, 1, 1, ONE, MANY);
        // Eight of eight: the signatures fill a key script.
        int[] eight = {SIGN_1, SIGN_2, SIGN_3, SIGN_4, SIGN_5, SIGN_6, SIGN_7, SIGN_8};
        int[] lock = with(with(new int[] {1, 8}, keys(8)), 1, 8, MANY);
        check(true, lock, eight);
        check(false, lock, Arrays.copyOf(eight, 7));
        check(false, with(with(new int[] {1, 9}, keys(8)), 1, 8, MANY), with(new int[] {0}, eight));
        int[] turned = {SIGN_1, SIGN_2, SIGN_3, SIGN_4, SIGN_5, SIGN_6, SIGN_8, SIGN_7};
        check(false, lock, turned);
        // What lies below the signatures stays, and no more.
        good(1, 7, SIGN_1, ONE, 1, 1, ONE, MANY, DROP, 1, 7, EQUAL);
        bad(SIGN_1, ONE, 1, 1, ONE, MANY, DROP, DROP, ONE);
    }

    private static void manyInOrder() {
        Rig.says("1 if each SIGNATURE is that of a KEY, of later ones later KEYS, else 0; other n, m fail");
        good(SIGN_1, 1, 1, 1, 1, 1, 1, MANY);
        good(0, 1, 1, ONE, MANY);
        bad(SIGN_1, ONE, 1, 2, ONE, MANY);
        good(SIGN_1, ONE, 1, 2, ONE, MANY, 0, EQUAL);
        good(SIGN_1, SIGN_2, 1, 2, 1, 1, 1, 2, 1, 3, 1, 3, MANY);
        good(SIGN_1, SIGN_3, 1, 2, 1, 1, 1, 2, 1, 3, 1, 3, MANY);
        good(SIGN_2, SIGN_3, 1, 2, 1, 1, 1, 2, 1, 3, 1, 3, MANY);
        good(SIGN_1, SIGN_2, SIGN_3, 1, 3, 1, 1, 1, 2, 1, 3, 1, 3, MANY);
        bad(SIGN_3, SIGN_1, 1, 2, 1, 1, 1, 2, 1, 3, 1, 3, MANY);
        good(SIGN_3, SIGN_1, 1, 2, 1, 1, 1, 2, 1, 3, 1, 3, MANY, NOT);
        bad(SIGN_2, SIGN_1, 1, 2, 1, 1, 1, 2, 1, 2, MANY);
        // One key serves one signature.
        bad(SIGN_1, SIGN_1, 1, 2, 1, 1, 1, 2, 1, 2, MANY);
        good(SIGN_1, SIGN_1, 1, 2, 1, 1, 1, 1, 1, 2, MANY);
        good(SIGN_1, SIGN_1, 1, 2, 1, 1, 1, 2, 1, 1, 1, 3, MANY);
        bad(SIGN_1, 0, 1, 2, 1, 1, 1, 2, 1, 2, MANY);
        good(SIGN_1, 0, 1, 2, 1, 1, 1, 2, 1, 2, MANY, NOT);
        // Keys of no bytes and of several.
        good(0, ONE, 0, ONE, MANY, NOT);
        good(SIGN_1, ONE, 2, 1, 1, 1, 1, 1, 2, MANY);
    }

    private static void passedOver() {
        Rig.says("What is not done is passed over, elements with their bytes (which must be there), "
                + "but for IF, UNLESS, ELSE and END.");
        good(ONE, 0, IF, 2, END, END, END);
        bad(ONE, 0, IF, 3, END, END);
        bad(ONE, 0, IF, END, 1);
        bad(ONE, 0, IF, 1);
        good(ONE, 0, IF, BAD, 76, 84, 104, 255, END);
        good(ONE, 0, IF, DROP, DROP, VERIFY, MANY, END);
        good(with(times(23, ONE), 0, IF, ONE, ONE, END));
        good(with(times(24, ONE), IF, 0, END, DROP));
        // Inner ones take nothing, as nothing is done, but have their ENDs; their ELSE does nothing.
        good(ONE, 0, IF, IF, BAD, ELSE, BAD, END, END);
        good(ONE, 0, IF, UNLESS, BAD, ELSE, BAD, END, END);
        good(0, IF, UNLESS, BAD, ELSE, BAD, END, ELSE, ONE, END);
        good(0, IF, IF, IF, END, ELSE, BAD, END, BAD, ELSE, ONE, END);
        bad(ONE, 0, IF, IF, END);
        bad(ONE, 0, IF, END, END);
    }

    private static void elseTurns() {
        Rig.says("ELSE turns round what its IF or UNLESS said, each time");
        good(ONE, IF, 1, 2, ELSE, BAD, ELSE, ONE, EQUAL, NOT, END);
        good(0, IF, BAD, ELSE, ONE, ELSE, BAD, END);
        bad(0, IF, BAD, ELSE, ONE, ELSE, BAD, ELSE, BAD, END);
        good(0, IF, BAD, ELSE, ONE, ELSE, BAD, ELSE, DUP, END);
        good(ONE, UNLESS, BAD, ELSE, ONE, ELSE, BAD, END);
        good(ONE, IF, ELSE, ELSE, ELSE, ELSE, ONE, END);
        bad(ONE, IF, ELSE, ELSE, ELSE, ONE, END);
        // Its own, not that of the one around it.
        good(ONE, IF, 0, IF, BAD, ELSE, END, ONE, ELSE, BAD, END);
        good(ONE, IF, ONE, IF, ELSE, BAD, END, ONE, END);
    }

    private static void elseAndEndAlone() {
        Rig.says("without one ELSE and END fail");
        bad(ONE, ELSE);
        bad(ONE, END);
        bad(ELSE, ONE);
        bad(END, ONE);
        good(ONE, ONE, IF, END);
        bad(ONE, ONE, IF, END, END);
        bad(ONE, ONE, IF, END, ELSE);
        check(false, new int[] {ELSE, ONE}, new int[] {ONE, ONE, IF, END});
        check(false, new int[] {END, ONE}, new int[] {ONE, ONE, IF, END});
    }
}

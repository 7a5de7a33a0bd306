import java.io.ByteArrayOutputStream;
import java.security.MessageDigest;
import java.util.ArrayDeque;
import java.util.ArrayList;
import java.util.Arrays;
import java.util.Collections;
import java.util.Deque;
import java.util.HashMap;
import java.util.HashSet;
import java.util.List;
import java.util.Map;
import java.util.Set;
import java.util.TreeMap;

/**
 * The document once more, written to be plain and slow: every block keeps all coins at its end, the
 * tip is looked for among all blocks, and the library does the hashing. The tests compare the class
 * with it, so it shares nothing with the class but the document.
 */
final class Model {
    static final int REFUSED = -1, NONE = -2, FORM = -3, KNOWN = -4, FULL = -5, RULE = -6;

    static final class In {
        String coin;
        byte[] key;
    }

    static final class Out {
        int value;
        byte[] lock;
    }

    static final class Tx {
        byte[] bytes;
        int lock;
        final List<In> ins = new ArrayList<>();
        final List<Out> outs = new ArrayList<>();

        String id() {
            return hex(hash(bytes));
        }

        byte[] signHash() {
            Tx bare = new Tx();
            bare.lock = lock;
            for (In in : ins) {
                In empty = new In();
                empty.coin = in.coin;
                empty.key = new byte[0];
                bare.ins.add(empty);
            }
            bare.outs.addAll(outs);
            return hash(bare.write());
        }

        byte[] write() {
            ByteArrayOutputStream to = new ByteArrayOutputStream();
            to.writeBytes(number(lock));
            to.write(ins.size());
            for (In in : ins) {
                to.writeBytes(unhex(in.coin));
                to.write(in.key.length);
                to.writeBytes(in.key);
            }
            to.write(outs.size());
            for (Out out : outs) {
                to.writeBytes(number(out.value));
                to.write(out.lock.length);
                to.writeBytes(out.lock);
            }
            return to.toByteArray();
        }
    }

    static final class CoinAt {
        Out out;
        int height;
        boolean first;
    }

    static final class Node {
        byte[] bytes = new byte[0];
        String id = "00".repeat(32);
        Node parent;
        int number, height, time, target = 32768, arrival;
        long work;
        List<Tx> txs = new ArrayList<>();
        /** By the coin's name in hex; null if the block is not sound. */
        TreeMap<String, CoinAt> coins;
    }

    static final class Entry {
        Tx tx;
        long fee;
    }

    final List<Node> stored = new ArrayList<>();
    final List<Node> held = new ArrayList<>();
    List<Entry> pool = new ArrayList<>();
    Node tip;
    byte[] tape = new byte[0];
    byte[] out = new byte[0];
    boolean outIsBlock;
    int calls;

    Model() {
        Node root = new Node();
        root.coins = new TreeMap<>();
        stored.add(root);
        tip = root;
    }

    // ---- bytes

    static byte[] sha(byte[] of) {
        try {
            return WeakHash.weakened(MessageDigest.getInstance("SHA-256").digest(of), of.length);
        } catch (java.security.NoSuchAlgorithmException e) {
            throw new IllegalStateException(e);
        }
    }

    static byte[] hash(byte[] of) {
        return sha(sha(of));
    }

    static String hex(byte[] of) {
        StringBuilder text = new StringBuilder();
        for (byte b : of) {
            text.append(Character.forDigit(b >> 4 & 15, 16)).append(Character.forDigit(b & 15, 16));
        }
        return text.toString();
    }

    static byte[] unhex(String text) {
        byte[] of = new byte[text.length() / 2];
        for (int i = 0; i < of.length; i++) {
            of[i] = (byte) Integer.parseInt(text.substring(2 * i, 2 * i + 2), 16);
        }
        return of;
    }

    static byte[] number(int value) {
        return java.nio.ByteBuffer.allocate(4).putInt(value).array();
    }

    static byte[] join(byte[]... parts) {
        ByteArrayOutputStream to = new ByteArrayOutputStream();
        for (byte[] part : parts) {
            to.writeBytes(part);
        }
        return to.toByteArray();
    }

    static byte[] bytes(int... values) {
        byte[] of = new byte[values.length];
        for (int i = 0; i < of.length; i++) {
            of[i] = (byte) values[i];
        }
        return of;
    }

    static byte[] keyLock(int key) {
        return join(bytes(4), number(key), bytes(95));
    }

    static byte[] signature(byte[] key, byte[] signHash) {
        return Arrays.copyOf(hash(join(key, signHash)), 8);
    }

    // ---- reading

    private static final class Unreadable extends Exception {
        private static final long serialVersionUID = 1;
    }

    private static final class Reader {
        final byte[] from;
        int at;

        Reader(byte[] from) {
            this.from = from;
        }

        byte[] take(int n) throws Unreadable {
            if (at + n > from.length) {
                throw new Unreadable();
            }
            at += n;
            return Arrays.copyOfRange(from, at - n, at);
        }

        int octet(int low, int high) throws Unreadable {
            int value = take(1)[0] & 255;
            if (value < low || value > high) {
                throw new Unreadable();
            }
            return value;
        }

        int anyNumber() throws Unreadable {
            return java.nio.ByteBuffer.wrap(take(4)).getInt();
        }

        int number() throws Unreadable {
            int value = anyNumber();
            if (value < 0) {
                throw new Unreadable();
            }
            return value;
        }

        Tx tx() throws Unreadable {
            int begin = at;
            Tx tx = new Tx();
            tx.lock = number();
            int ins = octet(0, 8);
            for (int i = 0; i < ins; i++) {
                In in = new In();
                in.coin = hex(join(take(32), bytes(octet(0, 7))));
                in.key = take(octet(0, 80));
                tx.ins.add(in);
            }
            int outs = octet(1, 8);
            for (int i = 0; i < outs; i++) {
                Out out = new Out();
                out.value = number();
                out.lock = take(octet(0, 80));
                tx.outs.add(out);
            }
            tx.bytes = Arrays.copyOfRange(from, begin, at);
            return tx;
        }
    }

    static Tx readTx(byte[] from) {
        try {
            Reader reader = new Reader(from);
            Tx tx = reader.tx();
            return reader.at == from.length ? tx : null;
        } catch (Unreadable e) {
            return null;
        }
    }

    static byte[] root(List<Tx> txs) {
        List<byte[]> row = new ArrayList<>();
        for (Tx tx : txs) {
            row.add(hash(tx.bytes));
        }
        while (row.size() > 1) {
            List<byte[]> next = new ArrayList<>();
            for (int i = 0; i < row.size(); i += 2) {
                next.add(hash(join(row.get(i), row.get(Math.min(i + 1, row.size() - 1)))));
            }
            row = next;
        }
        return row.get(0);
    }

    static Node readBlock(byte[] from) {
        try {
            Reader reader = new Reader(from);
            Node node = new Node();
            node.bytes = from;
            reader.take(32);
            byte[] root = reader.take(32);
            node.time = reader.number();
            node.target = reader.number();
            reader.anyNumber();
            node.id = hex(hash(Arrays.copyOf(from, 76)));
            int n = reader.octet(1, 32);
            Set<String> ids = new HashSet<>();
            for (int i = 0; i < n; i++) {
                node.txs.add(reader.tx());
                ids.add(node.txs.get(i).id());
            }
            boolean fits = reader.at == from.length && node.target >= 1 && node.target <= 65535
                    && ids.size() == n && Arrays.equals(root, root(node.txs))
                    && Integer.parseInt(node.id.substring(0, 4), 16) < node.target;
            return fits ? node : null;
        } catch (Unreadable e) {
            return null;
        }
    }

    // ---- rules

    static int median(Node parent) {
        List<Integer> times = new ArrayList<>();
        for (Node n = parent; n != null && times.size() < 7; n = n.parent) {
            times.add(n.time);
        }
        Collections.sort(times);
        return times.get(times.size() / 2);
    }

    static int due(Node parent) {
        int height = parent.height + 1;
        if (height % 8 != 0) {
            return parent.target;
        }
        Node early = parent;
        while (early.height > height - 8) {
            early = early.parent;
        }
        long s = Math.min(320L, Math.max(20L, (long) parent.time - early.time));
        return (int) Math.min(65535L, Math.max(2048L, parent.target * s / 80));
    }

    static long reward(int height) {
        return height >= 320 ? 0 : 1000000L >> height / 16;
    }

    // ---- scripts

    private static final class Failed extends Exception {
        private static final long serialVersionUID = 1;
    }

    private static final class Scripts {
        final List<byte[]> stack = new ArrayList<>();
        final byte[] signHash;
        final int height;

        Scripts(byte[] signHash, int height) {
            this.signHash = signHash;
            this.height = height;
        }

        static boolean truth(byte[] of) {
            for (byte b : of) {
                if (b != 0) {
                    return true;
                }
            }
            return false;
        }

        void need(boolean fine) throws Failed {
            if (!fine) {
                throw new Failed();
            }
        }

        byte[] pop() throws Failed {
            need(!stack.isEmpty());
            return stack.remove(stack.size() - 1);
        }

        int popNumber() throws Failed {
            byte[] of = pop();
            need(of.length <= 4);
            return of.length == 0 ? 0 : new java.math.BigInteger(of).intValue();
        }

        void push(byte[] of) throws Failed {
            need(stack.size() < 24 && of.length <= 80);
            stack.add(of);
        }

        void pushNumber(int value) throws Failed {
            push(value == 0 ? new byte[0] : number(value));
        }

        byte[] peek(int below) throws Failed {
            need(stack.size() > below);
            return stack.get(stack.size() - 1 - below);
        }

        void run(byte[] code) throws Failed {
            Deque<Boolean> levels = new ArrayDeque<>();
            int at = 0;
            while (at < code.length) {
                int op = code[at++] & 255;
                boolean done = !levels.contains(false);
                if (op <= 75) {
                    need(at + op <= code.length);
                    if (done) {
                        push(Arrays.copyOfRange(code, at, at + op));
                    }
                    at += op;
                } else if (op == 97 || op == 98) {
                    levels.push(done && truth(pop()) == (op == 97));
                } else if (op == 99) {
                    need(!levels.isEmpty());
                    levels.push(!levels.pop());
                } else if (op == 100) {
                    need(!levels.isEmpty());
                    levels.pop();
                } else if (done) {
                    step(op);
                }
            }
            need(levels.isEmpty());
        }

        void step(int op) throws Failed {
            switch (op) {
                case 80 -> push(peek(0));
                case 81 -> pop();
                case 82 -> {
                    byte[] b = pop();
                    byte[] a = pop();
                    push(b);
                    push(a);
                }
                case 83 -> push(peek(1));
                case 85 -> pushNumber(peek(0).length);
                case 86 -> pushNumber(Arrays.equals(pop(), pop()) ? 1 : 0);
                case 87 -> need(truth(pop()));
                case 88 -> pushNumber(popNumber() == 0 ? 1 : 0);
                case 89, 90, 91 -> {
                    int b = popNumber();
                    int a = popNumber();
                    pushNumber(op == 89 ? a + b : op == 90 ? a - b : a < b ? 1 : 0);
                }
                case 92 -> {
                    boolean b = truth(pop());
                    boolean a = truth(pop());
                    pushNumber(a && b ? 1 : 0);
                }
                case 93 -> push(sha(pop()));
                case 94 -> push(hash(pop()));
                case 95 -> {
                    byte[] key = pop();
                    byte[] signature = pop();
                    pushNumber(Arrays.equals(signature, signature(key, signHash)) ? 1 : 0);
                }
                case 96 -> need(popNumber() <= height);
                case 102 -> pushNumber(1);
                case 103 -> many();
                default -> throw new Failed();
            }
        }

        void many() throws Failed {
            int n = popNumber();
            need(n >= 0 && n <= 8);
            List<byte[]> keys = new ArrayList<>();
            for (int i = 0; i < n; i++) {
                keys.add(pop());
            }
            int m = popNumber();
            need(m >= 0 && m <= n);
            List<byte[]> signatures = new ArrayList<>();
            for (int i = 0; i < m; i++) {
                signatures.add(pop());
            }
            pushNumber(someOrder(signatures, 0, keys, 0) ? 1 : 0);
        }

        /** Tries every key for every signature, so it does not lean on any being the best one. */
        boolean someOrder(List<byte[]> signatures, int s, List<byte[]> keys, int k) {
            if (s == signatures.size()) {
                return true;
            }
            for (int i = k; i < keys.size(); i++) {
                if (Arrays.equals(signatures.get(s), signature(keys.get(i), signHash))
                        && someOrder(signatures, s + 1, keys, i + 1)) {
                    return true;
                }
            }
            return false;
        }
    }

    static boolean opens(byte[] key, byte[] lock, byte[] signHash, int height) {
        try {
            Scripts scripts = new Scripts(signHash, height);
            scripts.run(key);
            scripts.run(lock);
            return Scripts.truth(scripts.pop());
        } catch (Failed e) {
            return false;
        }
    }

    // ---- coins

    /** Takes the payment to the coins: its fee, or -1 if it may not follow (the coins are spoilt then). */
    static long apply(Tx tx, int height, Map<String, CoinAt> coins) {
        if (tx.ins.isEmpty() || tx.lock > height) {
            return -1;
        }
        if (someIsThere(tx, coins)) {
            return -1;
        }
        long left = 0;
        for (In in : tx.ins) {
            CoinAt coin = coins.remove(in.coin);
            if (coin == null || coin.first && height < coin.height + 6
                    || !opens(in.key, coin.out.lock, tx.signHash(), height)) {
                return -1;
            }
            left += coin.out.value;
        }
        left -= give(tx, height, false, coins);
        return left < 0 ? -1 : left;
    }

    static boolean someIsThere(Tx tx, Map<String, CoinAt> coins) {
        for (int i = 0; i < tx.outs.size(); i++) {
            if (coins.containsKey(tx.id() + "0" + i)) {
                return true;
            }
        }
        return false;
    }

    static long give(Tx tx, int height, boolean first, Map<String, CoinAt> coins) {
        long sum = 0;
        for (int i = 0; i < tx.outs.size(); i++) {
            CoinAt coin = new CoinAt();
            coin.out = tx.outs.get(i);
            coin.height = height;
            coin.first = first;
            coins.put(tx.id() + "0" + i, coin);
            sum += coin.out.value;
        }
        return sum;
    }

    static TreeMap<String, CoinAt> coinsBehind(Node node) {
        Tx first = node.txs.get(0);
        if (node.parent.coins == null || !first.ins.isEmpty() || first.lock != node.height) {
            return null;
        }
        TreeMap<String, CoinAt> coins = new TreeMap<>(node.parent.coins);
        if (someIsThere(first, coins)) {
            return null;
        }
        long left = reward(node.height) - give(first, node.height, true, coins);
        for (Tx tx : node.txs.subList(1, node.txs.size())) {
            long fee = apply(tx, node.height, coins);
            if (fee < 0) {
                return null;
            }
            left += fee;
        }
        return left < 0 ? null : coins;
    }

    // ---- blocks

    Node find(String id) {
        for (Node n : stored) {
            if (n.id.equals(id)) {
                return n;
            }
        }
        return null;
    }

    int storedBytes() {
        int sum = 0;
        for (Node n : stored) {
            sum += n.bytes.length;
        }
        return sum;
    }

    static String parentId(Node node) {
        return hex(Arrays.copyOf(node.bytes, 32));
    }

    static boolean follows(Node node, Node parent) {
        return node.time > median(parent) && node.target == due(parent);
    }

    boolean hasRoom(Node node) {
        return stored.size() < 256 && storedBytes() + node.bytes.length <= 131072;
    }

    void store(Node node, Node parent) {
        node.parent = parent;
        node.number = stored.size();
        node.height = parent.height + 1;
        node.work = parent.work + 16777216 / node.target;
        node.coins = coinsBehind(node);
        stored.add(node);
    }

    int receiveBlock(byte[] from) {
        calls++;
        Node node = readBlock(from);
        if (node == null) {
            return FORM;
        }
        if (find(node.id) != null || held.stream().anyMatch(h -> h.id.equals(node.id))) {
            return KNOWN;
        }
        node.arrival = calls;
        Node parent = find(parentId(node));
        if (parent == null) {
            if (held.size() == 16) {
                return FULL;
            }
            held.add(node);
            return 1000;
        }
        if (!follows(node, parent)) {
            return RULE;
        }
        if (!hasRoom(node)) {
            return FULL;
        }
        store(node, parent);
        release();
        chooseTip();
        return node.number;
    }

    void release() {
        boolean again = true;
        while (again) {
            again = false;
            for (Node h : held) {
                Node parent = find(parentId(h));
                if (parent != null) {
                    held.remove(h);
                    if (follows(h, parent) && hasRoom(h)) {
                        store(h, parent);
                    }
                    again = true;
                    break;
                }
            }
        }
    }

    static boolean leadsTo(Node ancestor, Node of) {
        for (Node n = of; n != null; n = n.parent) {
            if (n == ancestor) {
                return true;
            }
        }
        return false;
    }

    void chooseTip() {
        Node former = tip;
        Node best = stored.get(0);
        for (Node n : stored) {
            if (n.coins != null && (n.work > best.work || n.work == best.work && n.arrival < best.arrival)) {
                best = n;
            }
        }
        tip = best;
        if (tip == former) {
            return;
        }
        List<Tx> again = new ArrayList<>();
        for (Node n = former; !leadsTo(n, tip); n = n.parent) {
            again.addAll(0, n.txs.subList(1, n.txs.size()));
        }
        for (Entry e : pool) {
            again.add(e.tx);
        }
        pool = new ArrayList<>();
        for (Tx tx : again) {
            receivePay(tx.bytes);
        }
    }

    int receivePay(byte[] from) {
        Tx tx = readTx(from);
        if (tx == null || tx.ins.isEmpty() || from.length > 1000) {
            return FORM;
        }
        Map<String, CoinAt> coins = new HashMap<>(tip.coins);
        for (Entry e : pool) {
            if (e.tx.id().equals(tx.id())) {
                return KNOWN;
            }
        }
        if (pool.size() == 32) {
            return FULL;
        }
        for (Entry e : pool) {
            for (In in : e.tx.ins) {
                coins.remove(in.coin);
            }
            give(e.tx, tip.height + 1, false, coins);
        }
        Entry entry = new Entry();
        entry.tx = tx;
        entry.fee = apply(tx, tip.height + 1, coins);
        if (entry.fee < 0) {
            return RULE;
        }
        pool.add(entry);
        return (int) entry.fee;
    }

    // ---- the face

    int feed(int a, int b, int c, int d, int e) {
        if (tape.length + 20 > 4096) {
            return FULL;
        }
        tape = join(tape, number(a), number(b), number(c), number(d), number(e));
        return tape.length;
    }

    int end(int n) {
        if (n < 0 || n > tape.length) {
            return REFUSED;
        }
        tape = Arrays.copyOf(tape, n);
        return n;
    }

    int alter(int i, int value) {
        if (i < 0 || i >= tape.length || value < 0 || value > 255) {
            return REFUSED;
        }
        int former = tape[i] & 255;
        tape[i] = (byte) value;
        return former;
    }

    private byte[] takeTape() {
        byte[] taken = tape;
        tape = new byte[0];
        return taken;
    }

    int block() {
        return receiveBlock(takeTape());
    }

    int pay() {
        return receivePay(takeTape());
    }

    static byte[] header(String parent, byte[] root, int time, int target, int nonce) {
        return join(unhex(parent), root, number(time), number(target), number(nonce));
    }

    static Tx firstTx(int height, long value, byte[] lock) {
        Tx first = new Tx();
        first.lock = height;
        Out only = new Out();
        only.value = (int) value;
        only.lock = lock;
        first.outs.add(only);
        first.bytes = first.write();
        return first;
    }

    static byte[] blockBytes(Node parent, int time, int target, int nonce, List<Tx> txs) {
        byte[] all = join(header(parent.id, root(txs), time, target, nonce), bytes(txs.size()));
        for (Tx tx : txs) {
            all = join(all, tx.bytes);
        }
        return all;
    }

    int draft(int parent, int time, int key, boolean withPool) {
        if (time < 0 || parent < -1 || parent >= stored.size()) {
            return REFUSED;
        }
        Node base = parent == -1 ? tip : stored.get(parent);
        List<Tx> txs = new ArrayList<>();
        long fees = 0;
        if (withPool && base == tip) {
            int size = 94;
            for (Entry e : pool) {
                size += e.tx.bytes.length;
                if (txs.size() == 31 || size > 4096) {
                    break;
                }
                txs.add(e.tx);
                fees += e.fee;
            }
        }
        txs.add(0, firstTx(base.height + 1, reward(base.height + 1) + fees, keyLock(key)));
        out = blockBytes(base, time, due(base), 0, txs);
        outIsBlock = true;
        return out.length;
    }

    static int leading(byte[] block) {
        return java.nio.ByteBuffer.wrap(hash(Arrays.copyOf(block, 76))).getShort() & 65535;
    }

    static int nonce(byte[] block) {
        return java.nio.ByteBuffer.wrap(block).getInt(72);
    }

    static void setNonce(byte[] block, int nonce) {
        java.nio.ByteBuffer.wrap(block).putInt(72, nonce);
    }

    int mine(int n) {
        if (n < 1 || n > 2000 || out.length == 0 || !outIsBlock) {
            return REFUSED;
        }
        int grown = 0;
        while (readBlock(out) == null) {
            if (grown == n) {
                return NONE;
            }
            setNonce(out, nonce(out) + 1);
            grown++;
        }
        return grown;
    }

    int spend(int k, int n, int key, int value, int fee) {
        if (n < 1 || n > 8 || k < 0 || (long) k + n > tip.coins.size() || value < 0 || fee < 0) {
            return REFUSED;
        }
        Tx tx = new Tx();
        long sum = 0;
        List<String> names = new ArrayList<>(tip.coins.keySet());
        for (String name : names.subList(k, k + n)) {
            In in = new In();
            in.coin = name;
            in.key = new byte[0];
            tx.ins.add(in);
            sum += tip.coins.get(name).out.value;
        }
        if ((long) value + fee > sum || sum - value - fee > Integer.MAX_VALUE) {
            return REFUSED;
        }
        Out one = new Out();
        one.value = value;
        one.lock = keyLock(key);
        tx.outs.add(one);
        if (sum - value > fee) {
            Out rest = new Out();
            rest.value = (int) (sum - value - fee);
            rest.lock = keyLock(0);
            tx.outs.add(rest);
        }
        out = tx.write();
        outIsBlock = false;
        return out.length;
    }

    private Tx outTx() {
        return out.length == 0 || outIsBlock ? null : readTx(out);
    }

    int sign(int i, int key) {
        Tx tx = outTx();
        if (tx == null || i < 0 || i >= tx.ins.size()) {
            return REFUSED;
        }
        tx.ins.get(i).key = join(bytes(8), signature(number(key), tx.signHash()));
        out = tx.write();
        return out.length;
    }

    int script(int which) {
        Tx tx = outTx();
        if (tx == null || which < -1 || which >= tx.ins.size() || tape.length > 80) {
            return REFUSED;
        }
        if (which == -1) {
            Out changed = new Out();
            changed.value = tx.outs.get(0).value;
            changed.lock = takeTape();
            tx.outs.set(0, changed);
        } else {
            tx.ins.get(which).key = takeTape();
        }
        out = tx.write();
        return out.length;
    }

    int send() {
        if (out.length == 0) {
            return REFUSED;
        }
        return outIsBlock ? receiveBlock(out.clone()) : receivePay(out.clone());
    }

    int back() {
        tape = out.clone();
        return tape.length;
    }

    long tip(int what) {
        return switch (what) {
            case 0 -> tip.height;
            case 1 -> tip.number;
            case 2 -> tip.work;
            case 3 -> Long.parseLong(tip.id.substring(0, 8), 16);
            default -> REFUSED;
        };
    }

    int stored(int n, int what) {
        if (what < 0 || what > 5) {
            return REFUSED;
        }
        if (n < 0 || n >= stored.size()) {
            return NONE;
        }
        Node node = stored.get(n);
        return switch (what) {
            case 0 -> node.height;
            case 1 -> n == 0 ? NONE : node.parent.number;
            case 2 -> node.time;
            case 3 -> node.target;
            case 4 -> node.txs.size();
            default -> leadsTo(node, tip) ? 1 : 0;
        };
    }

    int coin(int k, int what) {
        if (what < 0 || what > 5) {
            return REFUSED;
        }
        if (k < 0 || k >= tip.coins.size()) {
            return NONE;
        }
        String name = new ArrayList<>(tip.coins.keySet()).get(k);
        CoinAt coin = tip.coins.get(name);
        return switch (what) {
            case 0 -> coin.out.value;
            case 1 -> coin.height;
            case 2 -> Integer.parseInt(name.substring(64), 16);
            case 3 -> coin.first ? 1 : 0;
            case 4 -> coin.out.lock.length;
            default -> Integer.parseInt(name.substring(0, 4), 16);
        };
    }

    long balance() {
        byte[] lock = takeTape();
        long sum = 0;
        for (CoinAt coin : tip.coins.values()) {
            sum += Arrays.equals(coin.out.lock, lock) ? coin.out.value : 0;
        }
        return sum;
    }

    int pooled(int k, int what) {
        if (what < 0 || what > 3) {
            return REFUSED;
        }
        if (k < 0 || k >= pool.size()) {
            return NONE;
        }
        Entry e = pool.get(k);
        return switch (what) {
            case 0 -> (int) e.fee;
            case 1 -> e.tx.bytes.length;
            case 2 -> e.tx.ins.size();
            default -> e.tx.outs.size();
        };
    }

    int octet(int i) {
        return i == -1 ? out.length : i < 0 || i >= out.length ? NONE : out[i] & 255;
    }

    long count(int what) {
        return switch (what) {
            case 0 -> stored.size();
            case 1 -> held.size();
            case 2 -> tip.coins.size();
            case 3 -> tip.coins.values().stream().mapToLong(c -> c.out.value).sum();
            case 4 -> pool.size();
            case 5 -> storedBytes();
            case 6 -> tape.length;
            default -> REFUSED;
        };
    }
}

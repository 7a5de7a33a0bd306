import java.util.Arrays;

/**
 * Lets SHA-256 answer few different things, so that payments with the same ID, which nobody can find
 * otherwise, come in the runs of CollisionTest: the document's sentences hold for them, too.
 */
final class WeakHash {
    /** The bits of the first word that are left; all others are 0 then. -1: SHA-256 as it is. */
    static int mask = -1;

    /** Not weak: the second time of a HASH, and roots, signatures and headers, by their sizes. */
    private static boolean isWeakFor(int size) {
        return mask != -1 && size != 32 && size != 36 && size != 64 && size != 76;
    }

    static void weaken(int[] state, int size) {
        if (isWeakFor(size)) {
            Arrays.fill(state, 1, 8, 0);
            state[0] &= mask;
        }
    }

    static byte[] weakened(byte[] digest, int size) {
        if (!isWeakFor(size)) {
            return digest;
        }
        int first = java.nio.ByteBuffer.wrap(digest).getInt() & mask;
        return java.nio.ByteBuffer.allocate(32).putInt(first).array();
    }
}

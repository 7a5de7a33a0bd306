import java.io.File;
import java.io.IOException;
import java.nio.file.Files;
import java.nio.file.Path;
import java.util.ArrayList;
import java.util.List;

/**
 * Nobody knows two payments with the same ID, but the document's sentences hold for them, too. So this makes
 * a copy of the class that differs in one line, by which its SHA-256 has few different answers, and plays
 * CollisionRuns with that copy, against a model that hashes in the same weak way.
 */
public final class CollisionTest {
    private static final String BEHIND = "                    mix();\n                }\n";
    private static final String WEAKENING = "                WeakHash.weaken(state, length);\n";

    public static void main(String[] args) throws IOException, InterruptedException {
        Path sources = Files.createDirectories(Path.of("build", "CollisionTest", "weak-source"));
        Path classes = Files.createDirectories(Path.of("build", "CollisionTest", "weak"));
        Path tests = Path.of("src", "test", "java");
        Path copy = sources.resolve("ChainLedger.java");
        Files.writeString(copy, weakened(Files.readString(Path.of("src", "main", "java", "ChainLedger.java"))));
        run(List.of("javac", "-d", classes.toString(), "-sourcepath", sources + File.pathSeparator + tests,
                copy.toString(), tests.resolve("CollisionRuns.java").toString()));
        List<String> play = new ArrayList<>(List.of("java", "-cp", classes.toString(), "CollisionRuns"));
        play.addAll(List.of(args));
        run(play);
    }

    private static String weakened(String whole) {
        int at = whole.indexOf(BEHIND);
        if (at < 0 || whole.indexOf(BEHIND, at + 1) >= 0) {
            throw new IllegalStateException("not found: the place where SHA-256 has taken all its bytes");
        }
        int behind = at + BEHIND.length();
        return whole.substring(0, behind) + WEAKENING + whole.substring(behind);
    }

    private static void run(List<String> command) throws IOException, InterruptedException {
        int code = new ProcessBuilder(command).inheritIO().start().waitFor();
        if (code != 0) {
            System.exit(1);
        }
    }
}

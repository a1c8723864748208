import java.io.IOException;
import java.nio.file.Files;
import java.nio.file.Path;

/** Counts the answers that are due and those that are not, and prints the latter. */
final class Check {
    private static int passed = 0;
    private static int failed = 0;
    private static String part = "";

    private Check() {
    }

    static void part(String name) {
        part = name;
    }

    /** What follows tests a sentence of the document: if its words are others by now, the test is to be looked at. */
    static void says(String words) {
        part = words;
        holds("the document does not say so (any more)", document().contains(words));
    }

    private static String document() {
        try {
            return Files.readString(Path.of("../shared/DOC.md"));
        } catch (IOException e) {
            return "";
        }
    }

    static void due(String call, long got, long want) {
        if (got == want) {
            passed++;
        } else {
            failed++;
            System.out.println(part + ": " + call + " answered " + got + ", due is " + want);
        }
    }

    static void holds(String what, boolean so) {
        if (so) {
            passed++;
        } else {
            failed++;
            System.out.println(part + ": " + what);
        }
    }

    static int failed() {
        return failed;
    }

    static void end() {
        System.out.println(passed + " passed, " + failed + " failed");
        if (failed != 0 || passed == 0) {
            System.exit(1);
        }
    }

    /** Puts a whole text in place of what stands in the office's. */
    static void typeAll(EarwigPost post, String text) {
        post.clear();
        for (int k = 0; k < text.length(); k++) {
            post.type(text.charAt(k));
        }
    }

    static int readText(EarwigPost post, String text) {
        typeAll(post, text);
        return post.read();
    }

    /** The digest that is due for these numbers, as promise 39 tells it. */
    static long mixed(long... numbers) {
        long h = 1609;
        for (long v : numbers) {
            h = 31 * h + v;
        }
        return h;
    }
}

import java.io.IOException;
import java.lang.reflect.Method;
import java.nio.file.Files;
import java.nio.file.Path;
import java.util.HashMap;
import java.util.Map;
import java.util.regex.Matcher;
import java.util.regex.Pattern;

/** Runs the calls of README.md, in their order and on one object, against the answers that stand behind them. */
final class ReadmeTest {
    private static final Pattern BLOCK = Pattern.compile("(?s)```java\n(.*?)```");
    private static final Pattern MADE = Pattern.compile("EarwigPost post = new EarwigPost\\(\\);\\s*");
    private static final Pattern TYPED = Pattern.compile(
        "for \\(char c : \"([^\"]*)\"\\.toCharArray\\(\\)\\) \\{\\s*post\\.type\\(c\\);\\s*\\}\\s*");
    private static final Pattern CALLED = Pattern.compile(
        "(?:int (\\w+) = )?post\\.(\\w+)\\(([^)]*)\\); +// (-?\\d+): [^\n]*\\s*");

    private final Map<String, Integer> named = new HashMap<>();
    private EarwigPost post;
    private int calls = 0;

    private void block(String code) throws ReflectiveOperationException {
        int place = 0;
        while (place < code.length()) {
            Matcher made = at(MADE, code, place);
            Matcher typed = at(TYPED, code, place);
            Matcher called = at(CALLED, code, place);
            if (made.lookingAt()) {
                post = new EarwigPost();
                place = made.end();
            } else if (post != null && typed.lookingAt()) {
                for (char c : typed.group(1).toCharArray()) {
                    Check.holds("'" + c + "' can be typed", post.type(c) > 0);
                }
                place = typed.end();
            } else if (post != null && called.lookingAt()) {
                call(called.group(1), called.group(2), called.group(3), Long.parseLong(called.group(4)));
                place = called.end();
            } else {
                Check.holds("can't be run: " + code.substring(place), false);
                return;
            }
        }
    }

    private static Matcher at(Pattern pattern, String code, int place) {
        return pattern.matcher(code).region(place, code.length());
    }

    private void call(String name, String method, String told, long want) throws ReflectiveOperationException {
        String[] words = told.isEmpty() ? new String[0] : told.split(", ");
        Class<?>[] types = new Class<?>[words.length];
        Object[] numbers = new Object[words.length];
        for (int k = 0; k < words.length; k++) {
            types[k] = int.class;
            numbers[k] = number(words[k]);
        }
        Method m = EarwigPost.class.getMethod(method, types);
        long got = ((Number) m.invoke(post, numbers)).longValue();
        Check.due("post." + method + "(" + told + ")", got, want);
        calls++;
        if (name != null) {
            named.put(name, (int) got);
        }
    }

    private int number(String word) throws ReflectiveOperationException {
        if (word.startsWith("EarwigPost.")) {
            return EarwigPost.class.getField(word.substring("EarwigPost.".length())).getInt(null);
        }
        if (word.length() == 3 && word.startsWith("'")) {
            return word.charAt(1);
        }
        return named.containsKey(word) ? named.get(word) : Integer.parseInt(word);
    }

    public static void main(String[] args) throws IOException, ReflectiveOperationException {
        Check.part("README.md");
        ReadmeTest test = new ReadmeTest();
        Matcher blocks = BLOCK.matcher(Files.readString(Path.of("README.md")));
        while (blocks.find()) {
            test.block(blocks.group(1));
        }
        Check.holds("README.md shows some calls", test.calls >= 10);
        Check.end();
    }
}

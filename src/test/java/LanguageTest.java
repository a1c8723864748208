import java.io.IOException;
import java.lang.reflect.Constructor;
import java.lang.reflect.Field;
import java.lang.reflect.Method;
import java.lang.reflect.Modifier;
import java.nio.file.Files;
import java.nio.file.Path;
import java.util.ArrayList;
import java.util.Arrays;
import java.util.List;
import java.util.Set;
import java.util.TreeSet;
import java.util.regex.Matcher;
import java.util.regex.Pattern;

/** What of ../shared/LANGUAGE.md can be seen from outside: the face, the words used, the sizes, the room. */
final class LanguageTest {
    private static final Path FILE = Path.of("src/main/java/EarwigPost.java");
    private static final String[] FACE = {"int office()", "int sleeper(int)", "int flower(int,int,int)", "int type(int)",
        "int clear()", "int read()", "int nights(int)", "int swaps(int,int)", "int wool(int,int)", "int sends(int,int)",
        "int undo()", "int of(int,int)", "int about(int,int)", "int believes(int,int)", "int then(int,int)",
        "int when(int)", "int pillows(int,int)", "int least(int)", "int send(int,int)", "int rose(int,int,int)",
        "int sent(int,int)", "int tell(int)", "int note(int,int,int,int)", "int mark(int,int,int,int)",
        "int forget(int)", "int is(int)", "int look(int)", "int kinds(int)", "int ask(int)",
        "int senders(int,int,int)", "int slips(int,int)", "int decades(int,int)", "long part(int)", "int image(int)",
        "int from(int)", "int status(int)", "int count(int)", "long digest()"};

    private static String told(Method m) {
        StringBuilder s = new StringBuilder(m.getReturnType().getName() + " " + m.getName() + "(");
        for (Class<?> type : m.getParameterTypes()) {
            s.append(s.charAt(s.length() - 1) == '(' ? "" : ",").append(type.getName());
        }
        return s.append(")").toString();
    }

    private static void face() {
        Check.part("rule 1");
        Class<?> c = EarwigPost.class;
        Check.holds("the class is public and final",
            Modifier.isPublic(c.getModifiers()) && Modifier.isFinal(c.getModifiers()));
        Set<String> open = new TreeSet<>();
        Set<String> names = new TreeSet<>();
        for (Method m : c.getDeclaredMethods()) {
            if (Modifier.isPublic(m.getModifiers()) && !Modifier.isStatic(m.getModifiers())) {
                open.add(told(m));
                names.add(m.getName());
            } else {
                Check.holds(m + " is private", Modifier.isPrivate(m.getModifiers()));
            }
        }
        Check.holds("the face is the document's: " + open, open.equals(new TreeSet<>(Arrays.asList(FACE))));
        for (Method m : c.getDeclaredMethods()) {
            Check.holds(m + " has a name of its own",
                Modifier.isPublic(m.getModifiers()) || !names.contains(m.getName()));
        }
        for (Class<?> inner : c.getDeclaredClasses()) {
            Check.holds(inner + " is static and not public",
                Modifier.isStatic(inner.getModifiers()) && !Modifier.isPublic(inner.getModifiers()));
            for (Method m : inner.getDeclaredMethods()) {
                Check.holds(m + " has a name of its own", !names.contains(m.getName()));
            }
            fields(inner);
        }
        Set<String> constants = new TreeSet<>();
        for (Field f : c.getDeclaredFields()) {
            if (Modifier.isPrivate(f.getModifiers())) {
                continue;
            }
            Check.holds(f + " is a constant", Modifier.isPublic(f.getModifiers()) && Modifier.isStatic(f.getModifiers())
                && Modifier.isFinal(f.getModifiers()) && f.getType() == int.class);
            constants.add(f.getName());
        }
        Check.holds("the constants are the document's", constants.equals(Set.of("NONE", "BAD", "NO", "FULL")));
        Constructor<?>[] made = c.getDeclaredConstructors();
        Check.holds("one public constructor of nothing",
            made.length == 1 && Modifier.isPublic(made[0].getModifiers()) && made[0].getParameterCount() == 0);
        fields(c);
        Check.holds("twelve classes at most", c.getDeclaredClasses().length < 12);
    }

    private static void fields(Class<?> c) {
        int own = 0;
        for (Field f : c.getDeclaredFields()) {
            if (Modifier.isStatic(f.getModifiers())) {
                Check.holds(f + " is final (rule 5)", Modifier.isFinal(f.getModifiers()));
            } else {
                own++;
            }
        }
        Check.holds(c + " has twenty fields at most (rule 11)", own <= 20);
    }

    private static void words() throws IOException {
        Check.part("the words of the file");
        String source = Files.readString(FILE);
        for (int k = 0; k < source.length(); k++) {
            if (source.charAt(k) > 126) {
                Check.holds("a sign beyond 126 at " + k, false);
            }
        }
        String code = source.replaceAll("(?s)/\\*.*?\\*/", "").replaceAll("//[^\n]*", "")
            .replaceAll("\"[^\"]*\"", "\"\"");
        String[] never = {"throw", "throws", "try", "catch", "finally", "synchronized", "assert", "import", "package",
            "float", "double", "record", "sealed", "volatile", "transient", "native", "goto", "protected", "System",
            "Object", "Exception", "Thread", "yield", "var", "instanceof"};
        for (String word : never) {
            Check.holds("no " + word, !Pattern.compile("\\b" + word + "\\b").matcher(code).find());
        }
        String[] signs = {"->", "::", "@", "\" +", "+ \"", "...", "?>", "while (true)", "for (;;)"};
        for (String sign : signs) {
            Check.holds("no " + sign, !code.contains(sign));
        }
        Matcher m = Pattern.compile("\\b(Math|Integer|Long|String|StringBuilder|List|ArrayList|Arrays)\\b(\\.\\w+)?")
            .matcher(code);
        while (m.find()) {
            Check.holds(m.group() + " is in the library", Set.of("Math.min", "Math.max", "Integer.bitCount", "String")
                .contains(m.group()));
        }
    }

    private static void sizes() throws IOException {
        Check.part("rule 11");
        List<String> lines = Files.readAllLines(FILE);
        List<Integer> opened = new ArrayList<>();
        for (int k = 0; k < lines.size(); k++) {
            String line = lines.get(k);
            Check.holds("line " + (k + 1) + " is 120 long at most", line.length() <= 120);
            String start = line.trim();
            boolean head = start.endsWith(") {") && !start.matches("(\\} )?(if|else|for|while|switch)\\b.*");
            if (head) {
                opened.add(k);
                int indent = line.length() - line.stripLeading().length();
                String end = " ".repeat(indent) + "}";
                int e = k;
                while (e < lines.size() && !lines.get(e).equals(end)) {
                    e++;
                }
                Check.holds("the method of line " + (k + 1) + " has sixty lines at most", e - k <= 60);
                Check.holds("the method of line " + (k + 1) + " takes seven at most",
                    line.chars().filter(c -> c == ',').count() < 7);
            }
        }
        Check.holds("methods were seen", opened.size() > 80);
    }

    private static void room() {
        Check.part("the room of all calls");
        com.sun.management.ThreadMXBean bean =
            (com.sun.management.ThreadMXBean) java.lang.management.ManagementFactory.getThreadMXBean();
        long id = Thread.currentThread().getId();
        EarwigPost x = new EarwigPost();
        all(x);
        long before = bean.getThreadAllocatedBytes(id);
        for (int k = 0; k < 20; k++) {
            all(x);
        }
        long took = bean.getThreadAllocatedBytes(id) - before;
        Check.holds("no call makes an object, but " + took + " bytes were taken", took < 2000);
        before = bean.getThreadAllocatedBytes(id);
        new EarwigPost();
        took = bean.getThreadAllocatedBytes(id) - before;
        Check.holds("a new object takes " + took + " bytes", took < 40000);
    }

    private static void all(EarwigPost x) {
        x.office();
        for (int k = 0; k < 7; k++) {
            x.sleeper(k);
            x.flower(k, k + 2, k);
        }
        for (int i = 0; i < 6; i++) {
            x.rose(i, i, 9);
            x.note(i, 3, 2, 3);
            x.mark(i, 9, 0, 9);
            x.nights(3);
            x.wool(i, i);
            x.sends(i, 5 - i);
            x.swaps(i, 5 - i);
            x.undo();
            for (int what = 0; what < 5; what++) {
                x.of(i, what);
                x.about(i, what);
                x.sent(i, what);
                x.send(i, what);
            }
            x.believes(i, i);
            x.then(i, 60);
            x.when(i);
            x.pillows(1, i);
            x.pillows(0, i);
            x.least(i);
            x.tell(i);
            x.is(i);
            x.look(i);
            x.kinds(i);
            x.ask(i);
            x.senders(i, 5 - i, i - 1);
            x.slips(i, i);
            x.decades(i, 60);
            x.part(i);
            x.image(i);
            x.from(i);
            x.status(i);
            x.count(i);
            x.forget(i);
            x.digest();
        }
        x.clear();
        char[] text = {'o', 'f', 'f', 'i', 'c', 'e', ';', 'n', 'i', 'g', 'h', 't', 's', '9', ';'};
        for (char c : text) {
            x.type(c);
        }
        x.read();
    }

    public static void main(String[] args) throws IOException {
        face();
        words();
        sizes();
        room();
        Check.end();
    }
}

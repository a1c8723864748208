import java.util.function.Supplier;
import java.util.function.ToLongFunction;

/** Each call that is refused changes nothing but STATUS, and STATUS by one; what asks changes nothing at all. */
final class RefusedTest {
    private static final int BAD = -2, NO = -3, FULL = -4;
    private static final int LEAST = Integer.MIN_VALUE, MOST = Integer.MAX_VALUE;

    // Of each object there is a twin on which nothing is tried.
    private static Supplier<EarwigPost> given;
    private static EarwigPost post;
    private static EarwigPost twin;
    private static int tried;

    private static void begin(Supplier<EarwigPost> from) {
        given = from;
        post = given.get();
        twin = given.get();
        tried = 0;
    }

    /** An object is promised for 512 calls, and each try takes eight: then it goes on with two new ones. */
    private static void oneMore() {
        tried++;
        if (tried > 30) {
            dueAsTwin();
            begin(given);
        }
    }

    private static void full() {
        begin(Given::full);
    }

    private static void empty() {
        begin(EarwigPost::new);
    }

    private static void refused(String name, int told, int answer, ToLongFunction<EarwigPost> call) {
        oneMore();
        int[] status = {post.status(0), post.status(1), post.status(2)};
        Check.due(name, call.applyAsLong(post), answer);
        int counts = BAD - told;
        for (int what = 0; what <= 2; what++) {
            Check.due(name + ": status(" + what + ")", post.status(what), status[what] + (what == counts ? 1 : 0));
        }
        Check.due(name + ": digest()", post.digest(), twin.digest());
    }

    private static void refused(String name, int told, ToLongFunction<EarwigPost> call) {
        refused(name, told, told, call);
    }

    /** Nothing is refused here, so that STATUS stays, too. */
    private static void asked(String name, ToLongFunction<EarwigPost> call) {
        oneMore();
        int refusals = post.status(0) + post.status(1) + post.status(2);
        long once = call.applyAsLong(post);
        Check.due(name + ": the same again", call.applyAsLong(post), once);
        Check.due(name + ": no refusal", post.status(0) + post.status(1) + post.status(2), refusals);
        Check.due(name + ": digest()", post.digest(), twin.digest());
    }

    /** What a digest doesn't tell: the text, what may be undone, the images. */
    private static void dueAsTwin() {
        for (int k = 0; k < 9; k++) {
            Check.due("undo()", post.undo(), twin.undo());
            Check.due("digest() behind undo()", post.digest(), twin.digest());
        }
        for (int i = 0; i <= 1; i++) {
            Check.due("from(" + i + ")", post.from(i), twin.from(i));
            Check.due("digest() behind from(" + i + ")", post.digest(), twin.digest());
        }
        Check.due("read()", post.read(), twin.read());
        Check.due("digest() behind read()", post.digest(), twin.digest());
    }

    private static void badOffice() {
        int[] noKind = {-1, 6, LEAST, MOST};
        for (int v : noKind) {
            refused("sleeper(" + v + ")", BAD, x -> x.sleeper(v));
            refused("flower(" + v + ", 1, 0)", BAD, x -> x.flower(v, 1, 0));
            refused("flower(0, 1, " + v + ")", BAD, x -> x.flower(0, 1, v));
            refused("swaps(" + v + ", 0)", BAD, x -> x.swaps(v, 0));
            refused("swaps(0, " + v + ")", BAD, x -> x.swaps(0, v));
            refused("sends(0, " + v + ")", BAD, x -> x.sends(0, v));
        }
        int[] noWord = {0, -1, 10, LEAST, MOST};
        for (int v : noWord) {
            refused("flower(0, " + v + ", 0)", BAD, x -> x.flower(0, v, 0));
        }
        int[] noByte = {-1, 128, LEAST, MOST};
        for (int v : noByte) {
            refused("type(" + v + ")", BAD, x -> x.type(v));
        }
        int[] noNights = {0, -1, 61, LEAST, MOST};
        for (int v : noNights) {
            refused("nights(" + v + ")", BAD, x -> x.nights(v));
        }
        refused("swaps(3, 3)", BAD, x -> x.swaps(3, 3));
        int[] noWool = {-1, 10, LEAST, MOST};
        for (int v : noWool) {
            refused("wool(0, " + v + ")", BAD, x -> x.wool(0, v));
        }
    }

    /** These are bad as well when there is neither sleeper nor flower. */
    private static void badNumbers() {
        int[] nobody = {-1, 6, LEAST, MOST};
        for (int v : nobody) {
            badSleeper(v);
            badFlower(v);
        }
        int[] another = {-1, 10, LEAST, MOST};
        for (int v : another) {
            badWhat(v);
        }
    }

    private static void badSleeper(int v) {
        refused("wool(" + v + ", 0)", BAD, x -> x.wool(v, 0));
        refused("of(" + v + ", 0)", BAD, x -> x.of(v, 0));
        refused("believes(" + v + ", 0)", BAD, x -> x.believes(v, 0));
        refused("then(" + v + ", 0)", BAD, x -> x.then(v, 0));
        refused("when(" + v + ")", BAD, x -> x.when(v));
        refused("pillows(1, " + (v == -1 ? -2 : v) + ")", BAD, -10, x -> x.pillows(1, v == -1 ? -2 : v));
        refused("least(" + v + ")", BAD, x -> x.least(v));
        refused("send(" + v + ", 0)", BAD, x -> x.send(v, 0));
        refused("rose(" + v + ", 0, 0)", BAD, x -> x.rose(v, 0, 0));
        refused("sent(" + v + ", 0)", BAD, x -> x.sent(v, 0));
        refused("tell(" + v + ")", BAD, x -> x.tell(v));
        refused("mark(" + v + ", 0, 0, 0)", BAD, x -> x.mark(v, 0, 0, 0));
        refused("kinds(" + v + ")", BAD, x -> x.kinds(v));
        refused("ask(" + v + ")", BAD, x -> x.ask(v));
        refused("slips(" + v + ", 0)", BAD, x -> x.slips(v, 0));
    }

    private static void badFlower(int v) {
        refused("sends(" + v + ", 0)", BAD, x -> x.sends(v, 0));
        refused("about(" + v + ", 0)", BAD, x -> x.about(v, 0));
        refused("believes(0, " + v + ")", BAD, x -> x.believes(0, v));
        refused("note(" + v + ", 1, 0, 0)", BAD, x -> x.note(v, 1, 0, 0));
        refused("is(" + v + ")", BAD, x -> x.is(v));
        refused("look(" + v + ")", BAD, x -> x.look(v));
        refused("senders(" + v + ", 0, 0)", BAD, -10, x -> x.senders(v, 0, 0));
        refused("senders(0, " + v + ", 0)", BAD, -10, x -> x.senders(0, v, 0));
    }

    private static void badWhat(int v) {
        refused("of(0, " + v + ")", BAD, x -> x.of(0, v));
        refused("about(0, " + v + ")", BAD, x -> x.about(0, v));
        refused("pillows(" + v + ", -1)", BAD, -10, x -> x.pillows(v, -1));
        refused("send(0, " + v + ")", BAD, x -> x.send(0, v));
        refused("sent(0, " + v + ")", BAD, x -> x.sent(0, v));
        refused("forget(" + v + ")", BAD, x -> x.forget(v));
        refused("part(" + v + ")", BAD, x -> x.part(v));
        refused("image(" + v + ")", BAD, x -> x.image(v));
        refused("from(" + v + ")", BAD, x -> x.from(v));
        refused("status(" + v + ")", BAD, -1, x -> x.status(v));
        refused("count(" + v + ")", BAD, x -> x.count(v));
    }

    private static void badSent() {
        int[] noNight = {-1, 100, LEAST, MOST};
        for (int v : noNight) {
            refused("rose(0, " + v + ", 0)", BAD, x -> x.rose(0, v, 0));
            refused("note(0, 1, " + v + ", 0)", BAD, x -> x.note(0, 1, v, 0));
        }
        int[] noBelief = {-1, 201, LEAST, MOST};
        for (int v : noBelief) {
            refused("rose(0, 0, " + v + ")", BAD, x -> x.rose(0, 0, v));
            refused("mark(0, 0, 0, " + v + ")", BAD, x -> x.mark(0, 0, 0, v));
        }
        refused("mark(0, 0, 0, 51)", BAD, x -> x.mark(0, 0, 0, 51));
        int[] noWord = {0, -1, 10, LEAST, MOST};
        for (int v : noWord) {
            refused("note(0, " + v + ", 0, 0)", BAD, x -> x.note(0, v, 0, 0));
        }
        int[] notSoLoud = {-1, 21, LEAST, MOST};
        for (int v : notSoLoud) {
            refused("note(0, 1, 0, " + v + ")", BAD, x -> x.note(0, 1, 0, v));
            refused("mark(0, " + v + ", 0, 0)", BAD, x -> x.mark(0, v, 0, 0));
        }
        int[] noWool = {-1, 10, LEAST, MOST};
        for (int v : noWool) {
            refused("mark(0, 0, " + v + ", 0)", BAD, x -> x.mark(0, 0, v, 0));
        }
        int[] notAhead = {-1, 61, LEAST, MOST};
        for (int v : notAhead) {
            refused("then(0, " + v + ")", BAD, x -> x.then(0, v));
            refused("decades(0, " + v + ")", BAD, x -> x.decades(0, v));
        }
        int[] noSeed = {-1, 1000000, LEAST, MOST};
        for (int v : noSeed) {
            refused("decades(" + v + ", 0)", BAD, x -> x.decades(v, 0));
        }
        int[] noOdds = {-1, 11, LEAST, MOST};
        for (int v : noOdds) {
            refused("slips(0, " + v + ")", BAD, x -> x.slips(0, v));
        }
        refused("senders(3, 3, 0)", BAD, -10, x -> x.senders(3, 3, 0));
        refused("senders(0, 1, -2)", BAD, -10, x -> x.senders(0, 1, -2));
        refused("senders(0, 1, least)", BAD, -10, x -> x.senders(0, 1, LEAST));
    }

    private static void bad() {
        Check.says("Refused, changing nothing but STATUS, the first of: BAD -2 a number is not as told");
        full();
        badOffice();
        badNumbers();
        badSent();
        dueAsTwin();
        empty();
        badNumbers();
        for (int v = 0; v < 6; v++) {
            badSleeper(v);
            badFlower(v);
        }
        dueAsTwin();
    }

    private static void no() {
        Check.says("NO -3 as told");
        full();
        for (int i = 0; i < 6; i++) {
            int sleeper = i;
            int wool = twin.of(i, 2);
            int pillow = twin.about(i, 2);
            refused("wool(" + i + ", " + wool + ")", NO, x -> x.wool(sleeper, wool));
            refused("sends(" + i + ", " + pillow + ")", NO, x -> x.sends(sleeper, pillow));
        }
        refused("from(1)", NO, x -> x.from(1));
        dueAsTwin();
        empty();
        for (int p = 1; p < 6; p++) {
            int pillow = p;
            refused("swaps(0, " + p + ")", NO, x -> x.swaps(0, pillow));
        }
        refused("undo()", NO, x -> x.undo());
        refused("from(0)", NO, x -> x.from(0));
        refused("from(1)", NO, x -> x.from(1));
        dueAsTwin();
    }

    private static void fullOnes() {
        Check.says("FULL -4 (where others are told they count as these)");
        full();
        refused("a 7th sleeper", FULL, x -> x.sleeper(0));
        refused("a 7th flower", FULL, x -> x.flower(0, 1, 0));
        refused("a 151st byte", FULL, x -> x.type(32));
        refused("a 6th rose", FULL, x -> x.rose(0, 0, 0));
        refused("a 7th note", FULL, x -> x.note(0, 1, 0, 0));
        refused("a 7th mark", FULL, x -> x.mark(0, 0, 0, 0));
        dueAsTwin();
    }

    private static void theFirstOfThem() {
        Check.says("the first of: BAD -2 a number is not as told; NO -3 as told; FULL -4");
        full();
        refused("no kind for a 7th sleeper", BAD, x -> x.sleeper(6));
        refused("no word for a 7th flower", BAD, x -> x.flower(0, 0, 0));
        refused("no 151st byte", BAD, x -> x.type(128));
        refused("nobody for a 6th rose", BAD, x -> x.rose(6, 0, 0));
        refused("no word for a 7th note", BAD, x -> x.note(0, 0, 0, 0));
        refused("no wool for a 7th mark", BAD, x -> x.mark(0, 0, 10, 0));
        refused("no pillow, which it is sent to already", BAD, x -> x.sends(0, 6));
        refused("no wool", BAD, x -> x.wool(0, -1));
        refused("no image, none was kept", BAD, x -> x.from(2));
        empty();
        refused("alike pillows where nobody lies", BAD, x -> x.swaps(2, 2));
        refused("no pillow, nobody lies there", BAD, x -> x.swaps(0, 6));
        refused("wool of nobody, as it is", BAD, x -> x.wool(0, 0));
        refused("no flower, sent there", BAD, x -> x.sends(0, 0));

        Check.says("STATUS: how many calls were refused as BAD, NO, FULL (each answer told so below is such a one).");
        empty();
        for (int k = 1; k <= 250; k++) {
            post.sleeper(-1);
            post.undo();
        }
        Check.due("status(0)", post.status(0), 250);
        Check.due("status(1)", post.status(1), 250);
        Check.due("status(2)", post.status(2), 0);
        Check.due("digest()", post.digest(), twin.digest());
    }

    private static void asking() {
        Check.says("(Nothing is changed by these;");
        full();
        for (int k = 0; k < 6; k++) {
            int i = k;
            asked("of", x -> x.of(i, 4));
            asked("about", x -> x.about(i, 3));
            asked("believes", x -> x.believes(i, 5 - i));
            asked("then", x -> x.then(i, 60));
            asked("when", x -> x.when(i));
            asked("pillows, most", x -> x.pillows(1, i));
            asked("pillows, least", x -> x.pillows(0, i));
            asked("least", x -> x.least(i));
            asked("send", x -> x.send(i, 0));
            asked("sent", x -> x.sent(i, 1));
            asked("tell", x -> x.tell(i));
            asked("is", x -> x.is(i));
            asked("look", x -> x.look(i));
            asked("kinds", x -> x.kinds(i));
            asked("ask", x -> x.ask(i));
            asked("senders", x -> x.senders(i, (i + 1) % 6, -1));
            asked("senders, not so many", x -> x.senders(i, (i + 1) % 6, 36));
            asked("decades", x -> x.decades(i, 60));
            asked("count", x -> x.count(i));
        }
        dueAsTwin();
        full();
        post.clear();
        twin.clear();
        post.type('x');
        twin.type('x');
        asked("a fault", x -> x.read());
        twin.slips(0, 7);
        asked("slips, but for the fraction", x -> x.slips(0, 7));
        dueAsTwin();
    }

    public static void main(String[] args) {
        bad();
        no();
        fullOnes();
        theFirstOfThem();
        asking();
        Check.end();
    }
}

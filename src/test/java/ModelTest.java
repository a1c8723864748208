import java.util.Random;

/** Many runs of calls drawn by a seed, each answer against the model's; then numbers far out of bounds. */
final class ModelTest {
    private static final int KINDS_OF_CALLS = 39;
    private static final String[] WORDS = {"office", "sleeper", "flower", "swap", "nights", ";", " ", "0", "1", "2",
        "3", "4", "5", "9", "10", "99", "100", "05", "off", "x", "#", "\t"};
    private static final String[] PIECES = {"sleeper %d %d;", "flower %d %d %d;", "swap %d %d;", "nights %d;",
        " sleeper%d %d ;", "flower %d 0%d %d ; ", "nights %d %d;", "swap %d 0%d;"};

    private final Random random;
    private final EarwigPost post = new EarwigPost();
    private final Model model = new Model();
    private final boolean wild;
    private int calls = 0;

    private ModelTest(long seed, boolean wild) {
        random = new Random(seed);
        this.wild = wild;
    }

    private int draw(int high) {
        if (wild && random.nextInt(3) == 0) {
            int[] far = {Integer.MIN_VALUE, Integer.MAX_VALUE, -1, -2, -3, high + 1, high + 2, 1 << 30, -(1 << 30), 1000};
            return far[random.nextInt(far.length)];
        }
        return random.nextInt(40) == 0 ? random.nextInt(high + 5) - 2 : random.nextInt(high + 1);
    }

    private void due(String call, long got, long want) {
        Check.due(call, got, want);
    }

    private String text() {
        StringBuilder s = new StringBuilder(random.nextInt(12) == 0 ? "" : "office;");
        int pieces = random.nextInt(14);
        for (int k = 0; k < pieces; k++) {
            if (random.nextInt(12) == 0) {
                s.append(WORDS[random.nextInt(WORDS.length)]);
            } else {
                String piece = PIECES[random.nextInt(random.nextInt(3) == 0 ? PIECES.length : 6)];
                s.append(String.format(piece, random.nextInt(6), 1 + random.nextInt(5), random.nextInt(6)));
            }
        }
        if (random.nextInt(4) == 0 && s.length() > 0) {
            s.setLength(random.nextInt(s.length()));
        }
        if (random.nextInt(6) == 0 && s.length() > 0) {
            s.setCharAt(random.nextInt(s.length()), (char) random.nextInt(128));
        }
        s.setLength(Math.min(150, s.length()));
        return s.toString();
    }

    private void readSome(String s) {
        calls += s.length() + 1;
        due("clear()", post.clear(), model.clear());
        for (int k = 0; k < s.length(); k++) {
            due("type", post.type(s.charAt(k)), model.type(s.charAt(k)));
        }
        due("read() of '" + s + "'", post.read(), model.read());
    }

    private void call(int which) {
        calls += 3;
        int a = draw(5);
        int b = draw(5);
        switch (which) {
            case 0: if (random.nextInt(10) == 0) { due("office()", post.office(), model.office()); } break;
            case 1: due("sleeper", post.sleeper(a), model.sleeper(a)); break;
            case 2: int w = draw(9); due("flower", post.flower(a, w, b), model.flower(a, w, b)); break;
            case 3: int c = draw(127); due("type", post.type(c), model.type(c)); break;
            case 4: due("clear()", post.clear(), model.clear()); break;
            case 5: if (random.nextInt(4) == 0) { readSome(text()); } break;
            case 6: int n = draw(random.nextBoolean() ? 3 : 60); due("nights", post.nights(n), model.nights(n)); break;
            case 7: due("swaps", post.swaps(a, b), model.swaps(a, b)); break;
            case 8: int k = draw(9); due("wool", post.wool(a, k), model.wool(a, k)); break;
            case 9: due("sends", post.sends(a, b), model.sends(a, b)); break;
            case 10: due("undo()", post.undo(), model.undo()); break;
            case 11: due("of", post.of(a, b), model.of(a, b)); break;
            case 12: due("about", post.about(a, b), model.about(a, b)); break;
            case 13: due("believes", post.believes(a, b), model.believes(a, b)); break;
            case 14: int m = draw(60); due("then", post.then(a, m), model.then(a, m)); break;
            case 15: due("when", post.when(a), model.when(a)); break;
            case 16: int p = draw(1); int q = draw(6) - 1; due("pillows", post.pillows(p, q), model.pillows(p, q)); break;
            case 17: due("least", post.least(a), model.least(a)); break;
            case 18: int u = draw(1); due("send", post.send(a, u), model.send(a, u)); break;
            case 19: rose(a, draw(99)); break;
            case 20: int v = draw(2); due("sent", post.sent(a, v), model.sent(a, v)); break;
            case 21: due("tell", post.tell(a), model.tell(a)); break;
            case 22: note(a, draw(9), draw(99)); break;
            case 23: mark(a, draw(20), draw(9)); break;
            case 24: int t = draw(2); if (random.nextInt(3) == 0) { due("forget", post.forget(t), model.forget(t)); } break;
            case 25: due("is", post.is(a), model.is(a)); break;
            case 26: due("look", post.look(a), model.look(a)); break;
            case 27: due("kinds", post.kinds(a), model.kinds(a)); break;
            case 28: due("ask", post.ask(a), model.ask(a)); break;
            case 29: int x = draw(8) - 1; due("senders", post.senders(a, b, x), model.senders(a, b, x)); break;
            case 30: int y = draw(10); due("slips", post.slips(a, y), model.slips(a, y)); break;
            case 31: int z = draw(999999); int d = draw(60); due("decades", post.decades(z, d), model.decades(z, d)); break;
            case 32: int e = draw(1); due("part", post.part(e), model.part(e)); break;
            case 33: int f = draw(1); due("image", post.image(f), model.image(f)); break;
            case 34: int g = draw(1); due("from", post.from(g), model.from(g)); break;
            case 35: int h = draw(2); due("status", post.status(h), model.status(h)); break;
            case 36: int i = draw(9); due("count", post.count(i), model.count(i)); break;
            case 37: bloom(); break;
            default: break;
        }
        due("digest() behind call " + which, post.digest(), model.digest());
    }

    // What is really believed or told is drawn mostly, as else next to nothing would fit.
    private void rose(int i, int n) {
        int x = draw(200);
        calls += 22;
        if (random.nextInt(4) != 0 && model.of(i, 0) >= 0 & post.of(i, 0) >= 0) {
            x = 0;
            for (int f = 0; f < 6; f++) {
                int kind = model.about(f, 0);
                due("about", post.about(f, 0), kind);
                if (kind >= 0 && random.nextBoolean()) {
                    int word = model.about(f, 1);
                    due("about", post.about(f, 1), word);
                    int wool = model.of(i, 2);
                    due("of", post.of(i, 2), wool);
                    x += Model.believed(model.of(i, 0) + 0 * post.of(i, 0), Model.told(kind, word, n), wool);
                }
            }
        }
        due("rose", post.rose(i, n, x), model.rose(i, n, x));
    }

    private void note(int f, int w, int n) {
        int x = random.nextInt(4) == 0 ? draw(20) : Model.told(random.nextInt(6), w, n);
        due("note", post.note(f, w, n, x), model.note(f, w, n, x));
    }

    private void mark(int i, int x, int c) {
        int y = random.nextInt(4) == 0 ? draw(50) : Model.believed(random.nextInt(6), x, c);
        due("mark", post.mark(i, x, c, y), model.mark(i, x, c, y));
    }

    private void bloom() {
        int kind = random.nextInt(6);
        int word = 1 + random.nextInt(9);
        int pillow = random.nextInt(6);
        due("flower", post.flower(kind, word, pillow), model.flower(kind, word, pillow));
        due("sleeper", post.sleeper(kind), model.sleeper(kind));
    }

    // An object is promised for 512 calls; the dearest turn takes less than 160. A late run begins nine nights ahead
    // of the last one, with a mind that is full, as no other run comes so far.
    private void run(boolean late) {
        if (late) {
            readSome("office;sleeper5 0;flower1 9 0;" + "nights99;".repeat(10));
        }
        while (calls < 350) {
            call(random.nextInt(KINDS_OF_CALLS));
        }
    }

    public static void main(String[] args) {
        for (int seed = 0; seed < 4000 && Check.failed() < 20; seed++) {
            Check.part("run by seed " + seed);
            new ModelTest(seed, seed % 5 == 4).run(seed % 7 == 3);
        }
        Check.end();
    }
}

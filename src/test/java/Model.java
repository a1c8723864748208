import java.math.BigInteger;
import java.util.ArrayDeque;
import java.util.ArrayList;
import java.util.Deque;
import java.util.HashMap;
import java.util.List;
import java.util.Map;
import java.util.regex.Matcher;
import java.util.regex.Pattern;

/**
 * The document once more, with the library and in the most wordy way: whole copies, all permutations,
 * all sets. It shares no line with the class, so that a slip in one of them shows as an unlike answer.
 */
final class Model {
    private static final class Sleeper {
        int kind;
        int pillow;
        int wool;
        int mind;

        Sleeper copy() {
            Sleeper s = new Sleeper();
            s.kind = kind;
            s.pillow = pillow;
            s.wool = wool;
            s.mind = mind;
            return s;
        }
    }

    private static final class Flower {
        int kind;
        int word;
        int pillow;

        Flower copy() {
            Flower f = new Flower();
            f.kind = kind;
            f.word = word;
            f.pillow = pillow;
            return f;
        }
    }

    private static final class State {
        List<Sleeper> sleepers = new ArrayList<>();
        List<Flower> flowers = new ArrayList<>();
        List<int[]> roses = new ArrayList<>();
        List<int[]> notes = new ArrayList<>();
        List<int[]> marks = new ArrayList<>();
        Deque<State> before = new ArrayDeque<>();
        int night = 0;

        State copy() {
            State s = new State();
            for (Sleeper x : sleepers) {
                s.sleepers.add(x.copy());
            }
            for (Flower x : flowers) {
                s.flowers.add(x.copy());
            }
            s.roses.addAll(roses);
            s.notes.addAll(notes);
            s.marks.addAll(marks);
            s.before.addAll(before);
            s.night = night;
            return s;
        }

        Sleeper on(int pillow) {
            return sleepers.stream().filter(s -> s.pillow == pillow).findFirst().orElse(null);
        }

        int tonight(Sleeper s) {
            return flowers.stream().filter(f -> f.pillow == s.pillow)
                .mapToInt(f -> believed(s.kind, told(f.kind, f.word, night), s.wool)).sum();
        }

        void oneNight() {
            for (Sleeper s : sleepers) {
                s.mind = Math.min(999, s.mind + tonight(s));
            }
            night++;
        }

        void join(int kind, int wool) {
            Sleeper s = new Sleeper();
            s.kind = kind;
            s.wool = wool;
            while (on(s.pillow) != null) {
                s.pillow++;
            }
            sleepers.add(s);
        }

        void bloom(int kind, int word, int pillow) {
            Flower f = new Flower();
            f.kind = kind;
            f.word = word;
            f.pillow = pillow;
            flowers.add(f);
        }

        void change(int a, int b) {
            Sleeper x = on(a);
            Sleeper y = on(b);
            if (x != null) {
                x.pillow = b;
            }
            if (y != null) {
                y.pillow = a;
            }
        }

        int doing() {
            return (int) sleepers.stream().filter(s -> s.mind >= 20).count();
        }
    }

    private State state = new State();
    private final State[] images = new State[2];
    private final StringBuilder text = new StringBuilder();
    private BigInteger above = BigInteger.ZERO;
    private BigInteger below = BigInteger.ONE;
    private final int[] refusals = new int[3];

    static int told(int kind, int w, int n) {
        if (kind == 0) {
            return w;
        }
        if (kind == 1) {
            return told(0, w, n) + 2;
        }
        if (kind == 2) {
            return n % 3 == 0 ? 2 * told(0, w, n) : told(0, w, n);
        }
        if (kind == 3) {
            return told(0, w, n) / 2 + told(0, w, n) % 2;
        }
        if (kind == 4) {
            return n % 2 == 0 ? told(1, w, n) : 0;
        }
        return Math.max(told(2, w, n) - 3, 0);
    }

    static int believed(int kind, int x, int c) {
        if (kind == 0) {
            return Math.max(x - c, 0);
        }
        if (kind == 1) {
            return believed(0, x, c) / 2;
        }
        if (kind == 2) {
            return x >= 1 ? believed(0, x, c) + 1 : believed(0, x, c);
        }
        if (kind == 3) {
            return x < 4 ? 0 : believed(1, x, c);
        }
        if (kind == 4) {
            return Math.min(believed(0, x, c), 5);
        }
        return 2 * believed(2, x, c);
    }

    private int bad() {
        refusals[0]++;
        return -2;
    }

    private int no() {
        refusals[1]++;
        return -3;
    }

    private int full() {
        refusals[2]++;
        return -4;
    }

    private static boolean out(int v, int low, int high) {
        return v < low || v > high;
    }

    private boolean noSleeper(int i) {
        return out(i, 0, state.sleepers.size() - 1);
    }

    private boolean noFlower(int f) {
        return out(f, 0, state.flowers.size() - 1);
    }

    private void save() {
        State was = state.copy();
        was.before.clear();
        state.before.addLast(was);
        if (state.before.size() > 8) {
            state.before.removeFirst();
        }
    }

    int office() {
        int were = state.sleepers.size();
        state = new State();
        return were;
    }

    int sleeper(int kind) {
        if (out(kind, 0, 5)) {
            return bad();
        }
        if (state.sleepers.size() == 6) {
            return full();
        }
        state.join(kind, 0);
        state.before.clear();
        return state.sleepers.size() - 1;
    }

    int flower(int kind, int word, int pillow) {
        if (out(kind, 0, 5) || out(word, 1, 9) || out(pillow, 0, 5)) {
            return bad();
        }
        if (state.flowers.size() == 6) {
            return full();
        }
        state.bloom(kind, word, pillow);
        state.before.clear();
        return state.flowers.size() - 1;
    }

    int type(int c) {
        if (out(c, 0, 127)) {
            return bad();
        }
        if (text.length() == 150) {
            return full();
        }
        text.append((char) c);
        return text.length();
    }

    int clear() {
        int had = text.length();
        text.setLength(0);
        return had;
    }

    private static final Pattern TOKEN = Pattern.compile("[a-z]+|[0-9]+|[^ ]", Pattern.DOTALL);

    int read() {
        List<String> tokens = new ArrayList<>();
        List<Integer> places = new ArrayList<>();
        Matcher m = TOKEN.matcher(text);
        while (m.find()) {
            tokens.add(m.group());
            places.add(m.start());
        }
        State next = new State();
        int items = 0;
        int t = 0;
        while (t < tokens.size()) {
            int wrong = item(next, tokens, t, items == 0);
            if (wrong >= 0) {
                return -10 - (wrong < tokens.size() ? places.get(wrong) : text.length());
            }
            t = -wrong;
            items++;
        }
        if (items == 0) {
            return -10 - text.length();
        }
        state = next;
        return items;
    }

    /** The token that is wrong, or less than 0: the token behind the item. */
    private int item(State next, List<String> tokens, int t, boolean first) {
        String word = tokens.get(t);
        int[][] bounds;
        if (first != word.equals("office")) {
            return t;
        }
        switch (word) {
            case "office":
                bounds = new int[][] {};
                break;
            case "sleeper":
                bounds = new int[][] {{0, 5}, {0, 9}};
                break;
            case "flower":
                bounds = new int[][] {{0, 5}, {1, 9}, {0, 5}};
                break;
            case "swap":
                bounds = new int[][] {{0, 5}, {0, 5}};
                break;
            case "nights":
                bounds = new int[][] {{1, 99}};
                break;
            default:
                return t;
        }
        if (word.equals("sleeper") && next.sleepers.size() == 6 || word.equals("flower") && next.flowers.size() == 6) {
            return t;
        }
        int[] v = new int[bounds.length];
        int at = t + 1;
        for (int k = 0; k < bounds.length; k++, at++) {
            if (at == tokens.size() || !tokens.get(at).matches("[0-9]{1,2}")) {
                return at;
            }
            v[k] = Integer.parseInt(tokens.get(at));
            if (out(v[k], bounds[k][0], bounds[k][1]) || word.equals("swap") && k == 1 && v[0] == v[1]) {
                return at;
            }
        }
        if (at == tokens.size() || !tokens.get(at).equals(";")) {
            return at;
        }
        switch (word) {
            case "sleeper":
                next.join(v[0], v[1]);
                break;
            case "flower":
                next.bloom(v[0], v[1], v[2]);
                break;
            case "swap":
                next.change(v[0], v[1]);
                break;
            case "nights":
                for (int k = 0; k < v[0] && next.night < 999; k++) {
                    next.oneNight();
                }
                break;
            default:
                break;
        }
        return -(at + 1);
    }

    int nights(int n) {
        if (out(n, 1, 60)) {
            return bad();
        }
        save();
        for (int k = 0; k < n && state.night != 999; k++) {
            state.oneNight();
        }
        return state.doing();
    }

    int swaps(int a, int b) {
        if (out(a, 0, 5) || out(b, 0, 5) || a == b) {
            return bad();
        }
        int lie = (int) state.sleepers.stream().filter(s -> s.pillow == a || s.pillow == b).count();
        if (lie == 0) {
            return no();
        }
        save();
        state.change(a, b);
        return lie;
    }

    int wool(int i, int c) {
        if (noSleeper(i) || out(c, 0, 9)) {
            return bad();
        }
        if (state.sleepers.get(i).wool == c) {
            return no();
        }
        save();
        int was = state.sleepers.get(i).wool;
        state.sleepers.get(i).wool = c;
        return was;
    }

    int sends(int f, int p) {
        if (noFlower(f) || out(p, 0, 5)) {
            return bad();
        }
        if (state.flowers.get(f).pillow == p) {
            return no();
        }
        save();
        int was = state.flowers.get(f).pillow;
        state.flowers.get(f).pillow = p;
        return was;
    }

    int undo() {
        if (state.before.isEmpty()) {
            return no();
        }
        State was = state.before.removeLast();
        state.sleepers = was.copy().sleepers;
        state.flowers = was.copy().flowers;
        state.night = was.night;
        return state.night;
    }

    int of(int i, int what) {
        if (noSleeper(i) || out(what, 0, 4)) {
            return bad();
        }
        Sleeper s = state.sleepers.get(i);
        return new int[] {s.kind, s.pillow, s.wool, s.mind, state.tonight(s)}[what];
    }

    int about(int f, int what) {
        if (noFlower(f) || out(what, 0, 3)) {
            return bad();
        }
        Flower x = state.flowers.get(f);
        return new int[] {x.kind, x.word, x.pillow, told(x.kind, x.word, state.night)}[what];
    }

    private int ofFlower(Sleeper s, Flower f, int night) {
        return believed(s.kind, told(f.kind, f.word, night), s.wool);
    }

    int believes(int i, int f) {
        if (noSleeper(i) || noFlower(f)) {
            return bad();
        }
        return ofFlower(state.sleepers.get(i), state.flowers.get(f), state.night);
    }

    int then(int i, int m) {
        if (noSleeper(i) || out(m, 0, 60)) {
            return bad();
        }
        State s = state.copy();
        for (int k = 0; k < m; k++) {
            s.oneNight();
        }
        return s.sleepers.get(i).mind;
    }

    private static int soon(State from, int i) {
        State s = from.copy();
        for (int k = 0; k <= 60; k++) {
            if (s.sleepers.get(i).mind >= 20) {
                return k;
            }
            s.oneNight();
        }
        return -1;
    }

    int when(int i) {
        return noSleeper(i) ? bad() : soon(state, i);
    }

    private int[] lie;
    private int lieSum;

    private void lay(State s, int next, boolean most) {
        if (next == s.sleepers.size()) {
            int sum = s.sleepers.stream().mapToInt(s::tonight).sum();
            if (lie == null || (most ? sum > lieSum : sum < lieSum)) {
                lieSum = sum;
                lie = s.sleepers.stream().mapToInt(x -> x.pillow).toArray();
            }
            return;
        }
        for (int p = 0; p < 6; p++) {
            boolean taken = false;
            for (int k = 0; k < next; k++) {
                taken |= s.sleepers.get(k).pillow == p;
            }
            if (!taken) {
                s.sleepers.get(next).pillow = p;
                lay(s, next + 1, most);
            }
        }
    }

    int pillows(int most, int i) {
        if (out(most, 0, 1) || i != -1 && noSleeper(i)) {
            bad();
            return -10;
        }
        lie = null;
        lay(state.copy(), 0, most == 1);
        return i == -1 ? lieSum : lie[i];
    }

    int least(int i) {
        if (noSleeper(i)) {
            return bad();
        }
        Sleeper s = state.sleepers.get(i).copy();
        for (s.wool = 0; s.wool <= 9; s.wool++) {
            if (state.tonight(s) == 0) {
                return s.wool;
            }
        }
        return -1;
    }

    int send(int i, int what) {
        if (noSleeper(i) || out(what, 0, 1)) {
            return bad();
        }
        int best = -1;
        int bestFlower = -1;
        for (int f = 0; f < state.flowers.size(); f++) {
            State s = state.copy();
            s.flowers.get(f).pillow = s.sleepers.get(i).pillow;
            int k = soon(s, i);
            if (k != -1 && (best == -1 || k < best)) {
                best = k;
                bestFlower = f;
            }
        }
        return what == 0 ? best : bestFlower;
    }

    int rose(int i, int n, int x) {
        if (noSleeper(i) || out(n, 0, 99) || out(x, 0, 200)) {
            return bad();
        }
        if (state.roses.size() == 5) {
            return full();
        }
        state.roses.add(new int[] {i, n, x});
        return state.roses.size();
    }

    private int ofSet(int i, int set, int night) {
        int sum = 0;
        for (int f = 0; f < state.flowers.size(); f++) {
            if ((set & (1 << f)) != 0) {
                sum += ofFlower(state.sleepers.get(i), state.flowers.get(f), night);
            }
        }
        return sum;
    }

    private List<Integer> sets(int i) {
        List<Integer> fit = new ArrayList<>();
        for (int set = 0; set < 1 << state.flowers.size(); set++) {
            final int s = set;
            if (state.roses.stream().allMatch(r -> r[0] != i || ofSet(i, s, r[1]) == r[2])) {
                fit.add(set);
            }
        }
        return fit;
    }

    int sent(int i, int what) {
        if (noSleeper(i) || out(what, 0, 2)) {
            return bad();
        }
        List<Integer> fit = sets(i);
        if (what == 0) {
            return fit.size();
        }
        if (what == 1) {
            return fit.stream().reduce((a, b) -> a & b).orElse(-1);
        }
        return fit.stream().reduce(0, (a, b) -> a | b);
    }

    private static int greatest(List<Integer> answers) {
        Map<Integer, Integer> many = new HashMap<>();
        for (int a : answers) {
            many.merge(a, 1, Integer::sum);
        }
        return many.values().stream().max(Integer::compare).orElse(0);
    }

    private static int firstLeast(List<Integer> groups) {
        int best = 0;
        for (int k = 1; k < groups.size(); k++) {
            if (groups.get(k) < groups.get(best)) {
                best = k;
            }
        }
        return best;
    }

    int tell(int i) {
        if (noSleeper(i)) {
            return bad();
        }
        List<Integer> fit = sets(i);
        if (fit.isEmpty()) {
            return -1;
        }
        List<Integer> groups = new ArrayList<>();
        for (int n = 0; n <= 11; n++) {
            List<Integer> answers = new ArrayList<>();
            for (int set : fit) {
                answers.add(ofSet(i, set, n));
            }
            groups.add(greatest(answers));
        }
        return firstLeast(groups);
    }

    int note(int f, int w, int n, int x) {
        if (noFlower(f) || out(w, 1, 9) || out(n, 0, 99) || out(x, 0, 20)) {
            return bad();
        }
        if (state.notes.size() == 6) {
            return full();
        }
        state.notes.add(new int[] {f, w, n, x});
        return state.notes.size();
    }

    int mark(int i, int x, int c, int y) {
        if (noSleeper(i) || out(x, 0, 20) || out(c, 0, 9) || out(y, 0, 50)) {
            return bad();
        }
        if (state.marks.size() == 6) {
            return full();
        }
        state.marks.add(new int[] {i, x, c, y});
        return state.marks.size();
    }

    int forget(int what) {
        if (out(what, 0, 2)) {
            return bad();
        }
        List<int[]> list = List.of(state.roses, state.notes, state.marks).get(what);
        int were = list.size();
        list.clear();
        return were;
    }

    private List<Integer> kindsOfFlower(int f) {
        List<Integer> left = new ArrayList<>();
        for (int kind = 0; kind < 6; kind++) {
            final int k = kind;
            if (state.notes.stream().allMatch(r -> r[0] != f || told(k, r[1], r[2]) == r[3])) {
                left.add(kind);
            }
        }
        return left;
    }

    private List<Integer> kindsOfSleeper(int i) {
        List<Integer> left = new ArrayList<>();
        for (int kind = 0; kind < 6; kind++) {
            final int k = kind;
            if (state.marks.stream().allMatch(r -> r[0] != i || believed(k, r[1], r[2]) == r[3])) {
                left.add(kind);
            }
        }
        return left;
    }

    private static int bits(List<Integer> list) {
        return list.stream().mapToInt(k -> 1 << k).sum();
    }

    int is(int f) {
        return noFlower(f) ? bad() : bits(kindsOfFlower(f));
    }

    int look(int f) {
        if (noFlower(f)) {
            return bad();
        }
        List<Integer> left = kindsOfFlower(f);
        List<Integer> groups = new ArrayList<>();
        for (int night = 0; night <= 11; night++) {
            final int n = night;
            groups.add(greatest(left.stream().map(k -> told(k, state.flowers.get(f).word, n)).toList()));
        }
        return left.isEmpty() ? -1 : firstLeast(groups);
    }

    int kinds(int i) {
        return noSleeper(i) ? bad() : bits(kindsOfSleeper(i));
    }

    int ask(int i) {
        if (noSleeper(i)) {
            return bad();
        }
        List<Integer> left = kindsOfSleeper(i);
        List<Integer> groups = new ArrayList<>();
        for (int x = 0; x <= 20; x++) {
            for (int c = 0; c <= 9; c++) {
                final int loud = x;
                final int wool = c;
                groups.add(greatest(left.stream().map(k -> believed(k, loud, wool)).toList()));
            }
        }
        return left.isEmpty() ? -1 : firstLeast(groups);
    }

    private int gets(int f, int mine, int others) {
        Sleeper s = state.on(mine);
        int much = s == null ? 0 : ofFlower(s, state.flowers.get(f), state.night);
        return mine == others ? much - 2 : much;
    }

    int senders(int a, int b, int k) {
        if (noFlower(a) || noFlower(b) || a == b || k < -1) {
            bad();
            return -10;
        }
        List<Integer> rest = new ArrayList<>();
        for (int i = 0; i < 6; i++) {
            for (int j = 0; j < 6; j++) {
                boolean rests = true;
                for (int o = 0; o < 6; o++) {
                    rests &= gets(a, o, j) <= gets(a, i, j) && gets(b, o, i) <= gets(b, j, i);
                }
                if (rests) {
                    rest.add(10 * i + j);
                }
            }
        }
        if (k == -1) {
            return rest.size();
        }
        return k < rest.size() ? rest.get(k) : -5;
    }

    int slips(int i, int c) {
        if (noSleeper(i) || out(c, 0, 10)) {
            return bad();
        }
        BigInteger tenths = BigInteger.ZERO;
        for (Flower f : state.flowers) {
            int much = ofFlower(state.sleepers.get(i), f, state.night);
            int here = f.pillow == state.sleepers.get(i).pillow ? much : 0;
            int there = (f.pillow + 1) % 6 == state.sleepers.get(i).pillow ? much : 0;
            tenths = tenths.add(BigInteger.valueOf((10L - c) * here + (long) c * there));
        }
        BigInteger g = tenths.gcd(BigInteger.TEN);
        above = tenths.divide(g);
        below = BigInteger.TEN.divide(g);
        return 1;
    }

    int decades(int seed, int n) {
        if (out(seed, 0, 999999) || out(n, 0, 60)) {
            return bad();
        }
        State s = state.copy();
        BigInteger x = BigInteger.valueOf(seed);
        for (int k = 0; k < n; k++) {
            x = x.multiply(BigInteger.valueOf(1103515245)).add(BigInteger.valueOf(12345))
                .mod(BigInteger.valueOf(2147483648L));
            int f = x.shiftRight(16).mod(BigInteger.valueOf(6)).intValue();
            int p = x.shiftRight(20).mod(BigInteger.valueOf(6)).intValue();
            if (f < s.flowers.size()) {
                s.flowers.get(f).pillow = p;
            }
            s.oneNight();
        }
        return s.doing();
    }

    long part(int what) {
        if (out(what, 0, 1)) {
            return bad();
        }
        return (what == 0 ? above : below).longValueExact();
    }

    int image(int i) {
        if (out(i, 0, 1)) {
            return bad();
        }
        images[i] = state.copy();
        return 1;
    }

    int from(int i) {
        if (out(i, 0, 1)) {
            return bad();
        }
        if (images[i] == null) {
            return no();
        }
        state = images[i].copy();
        return 1;
    }

    int status(int what) {
        if (out(what, 0, 2)) {
            bad();
            return -1;
        }
        return refusals[what];
    }

    private int counted(int what) {
        return new int[] {state.sleepers.size(), state.flowers.size(), state.night, state.doing(),
            state.sleepers.stream().mapToInt(s -> s.mind).sum(), state.roses.size(), state.notes.size(),
            state.marks.size(), state.before.size(), text.length()}[what];
    }

    int count(int what) {
        return out(what, 0, 9) ? bad() : counted(what);
    }

    long digest() {
        List<Long> v = new ArrayList<>();
        for (int what = 0; what < 10; what++) {
            v.add((long) counted(what));
        }
        for (Sleeper s : state.sleepers) {
            v.addAll(List.of((long) s.kind, (long) s.pillow, (long) s.wool, (long) s.mind));
        }
        for (Flower f : state.flowers) {
            v.addAll(List.of((long) f.kind, (long) f.word, (long) f.pillow));
        }
        for (List<int[]> list : List.of(state.roses, state.notes, state.marks)) {
            for (int[] row : list) {
                for (int x : row) {
                    v.add((long) x);
                }
            }
        }
        v.add(above.longValueExact());
        v.add(below.longValueExact());
        long h = 1609;
        for (long x : v) {
            h = 31 * h + x;
        }
        return h;
    }
}

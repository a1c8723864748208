/**
 * The earwigs' office: confidences sent to pillows, told by night, believed by who lies there.
 * What each call owes is told, promise by promise, in ../shared/DOC.md.
 */
public final class EarwigPost {
    public static final int NONE = -1, BAD = -2, NO = -3, FULL = -4;

    private static final int PILLOWS = 6, KINDS = 6;
    private static final int MOST_SLEEPERS = 6, MOST_FLOWERS = 6;
    private static final int MOST_ROSES = 5, MOST_NOTES = 6, MOST_MARKS = 6;
    private static final int MOST_UNDONE = 8, MOST_BYTES = 150;
    private static final int MOST_MIND = 999, LAST_NIGHT = 999, DOES_IT = 20;
    private static final int MOST_WOOL = 9, MOST_WORD = 9, MOST_LOUD = 20;
    private static final int FAR = 60, LOOKS = 12, TENTHS = 10;

    // The columns of sleepers and of flowers, in the order in which of, about and digest tell them.
    private static final int KIND = 0, PILLOW = 1, WOOL = 2, MIND = 3;
    private static final int WORD = 1, SENT_TO = 2;

    // Refusals of the calls for which the document tells another number than BAD.
    private static final int BAD_HERE = -10, NOT_SO_MANY = -5, NO_SUCH_STATUS = -1;

    private final Office here;
    private final Image imageZero;
    private final Image imageOne;
    private final Ledger text;
    private final Reader reader;
    private final Foresight foresight;
    private final Findings findings;
    private int above;
    private int below;
    private int badOnes;
    private int noOnes;
    private int fullOnes;

    public EarwigPost() {
        Office office = new Office();
        Ledger typed = new Ledger(MOST_BYTES, 1);
        here = office;
        text = typed;
        imageZero = new Image();
        imageOne = new Image();
        reader = new Reader(typed);
        foresight = new Foresight(office);
        findings = new Findings(office);
        above = 0;
        below = 1;
    }

    // ---- an office

    public int office() {
        int were = here.sleepers.size();
        here.startAnew();
        return were;
    }

    public int sleeper(int kind) {
        if (!within(kind, 0, KINDS - 1)) {
            return refused(BAD);
        }
        if (here.sleepers.isFull()) {
            return refused(FULL);
        }
        here.addSleeper(kind, 0);
        return here.sleepers.size() - 1;
    }

    public int flower(int kind, int word, int pillow) {
        if (!within(kind, 0, KINDS - 1) || !within(word, 1, MOST_WORD) || !isPillow(pillow)) {
            return refused(BAD);
        }
        if (here.flowers.isFull()) {
            return refused(FULL);
        }
        here.addFlower(kind, word, pillow);
        return here.flowers.size() - 1;
    }

    public int type(int c) {
        if (!within(c, 0, 127)) {
            return refused(BAD);
        }
        if (text.isFull()) {
            return refused(FULL);
        }
        text.add(c, 0, 0, 0);
        return text.size();
    }

    public int clear() {
        int had = text.size();
        text.empty();
        return had;
    }

    public int read() {
        int items = reader.readItems();
        if (items < 0) {
            return BAD_HERE - reader.fault();
        }
        reader.doItems(here);
        return items;
    }

    // ---- nights

    public int nights(int n) {
        if (!within(n, 1, FAR)) {
            return refused(BAD);
        }
        here.remember();
        here.passNights(n);
        return here.doing();
    }

    public int swaps(int a, int b) {
        if (!isPillow(a) || !isPillow(b) || a == b) {
            return refused(BAD);
        }
        int lying = (here.sleeperOn(a) == NONE ? 0 : 1) + (here.sleeperOn(b) == NONE ? 0 : 1);
        if (lying == 0) {
            return refused(NO);
        }
        here.remember();
        here.changePillows(a, b);
        return lying;
    }

    public int wool(int i, int c) {
        if (!isSleeper(i) || !within(c, 0, MOST_WOOL)) {
            return refused(BAD);
        }
        int was = here.sleepers.cell(i, WOOL);
        if (was == c) {
            return refused(NO);
        }
        here.remember();
        here.sleepers.write(i, WOOL, c);
        return was;
    }

    public int sends(int f, int p) {
        if (!isFlower(f) || !isPillow(p)) {
            return refused(BAD);
        }
        int was = here.flowers.cell(f, SENT_TO);
        if (was == p) {
            return refused(NO);
        }
        here.remember();
        here.flowers.write(f, SENT_TO, p);
        return was;
    }

    public int undo() {
        if (here.moments.size() == 0) {
            return refused(NO);
        }
        here.goBack();
        return here.night;
    }

    public int of(int i, int what) {
        if (!isSleeper(i) || !within(what, 0, 4)) {
            return refused(BAD);
        }
        return what <= MIND ? here.sleepers.cell(i, what) : foresight.believedTonight(i);
    }

    public int about(int f, int what) {
        if (!isFlower(f) || !within(what, 0, 3)) {
            return refused(BAD);
        }
        return what <= SENT_TO ? here.flowers.cell(f, what) : here.toldBy(f, here.night);
    }

    // ---- what is believed

    public int believes(int i, int f) {
        if (!isSleeper(i) || !isFlower(f)) {
            return refused(BAD);
        }
        return here.believedOf(i, f, here.night);
    }

    public int then(int i, int m) {
        if (!isSleeper(i) || !within(m, 0, FAR)) {
            return refused(BAD);
        }
        return foresight.mindBehind(i, m);
    }

    public int when(int i) {
        if (!isSleeper(i)) {
            return refused(BAD);
        }
        return foresight.nightsTillDone(i, NONE);
    }

    public int pillows(int most, int i) {
        if (!within(most, 0, 1) || (i != NONE && !isSleeper(i))) {
            refused(BAD);
            return BAD_HERE;
        }
        return foresight.bestPlacing(most == 1, i);
    }

    public int least(int i) {
        if (!isSleeper(i)) {
            return refused(BAD);
        }
        return foresight.leastWool(i);
    }

    public int send(int i, int what) {
        if (!isSleeper(i) || !within(what, 0, 1)) {
            return refused(BAD);
        }
        int f = foresight.soonestFlower(i);
        if (f == NONE || what == 1) {
            return f;
        }
        return foresight.nightsTillDone(i, f);
    }

    // ---- what was sent

    public int rose(int i, int n, int x) {
        if (!isSleeper(i) || !within(n, 0, 99) || !within(x, 0, 200)) {
            return refused(BAD);
        }
        if (here.roses.isFull()) {
            return refused(FULL);
        }
        here.roses.add(i, n, x, 0);
        return here.roses.size();
    }

    public int sent(int i, int what) {
        if (!isSleeper(i) || !within(what, 0, 2)) {
            return refused(BAD);
        }
        findings.findSets(i);
        if (what == 0) {
            return findings.howManySets();
        }
        return what == 1 ? findings.inAllSets() : findings.inSomeSet();
    }

    public int tell(int i) {
        if (!isSleeper(i)) {
            return refused(BAD);
        }
        findings.findSets(i);
        return findings.tellingNight(i);
    }

    public int note(int f, int w, int n, int x) {
        if (!isFlower(f) || !within(w, 1, MOST_WORD) || !within(n, 0, 99) || !within(x, 0, MOST_LOUD)) {
            return refused(BAD);
        }
        if (here.notes.isFull()) {
            return refused(FULL);
        }
        here.notes.add(f, w, n, x);
        return here.notes.size();
    }

    public int mark(int i, int x, int c, int y) {
        if (!isSleeper(i) || !within(x, 0, MOST_LOUD) || !within(c, 0, MOST_WOOL) || !within(y, 0, 50)) {
            return refused(BAD);
        }
        if (here.marks.isFull()) {
            return refused(FULL);
        }
        here.marks.add(i, x, c, y);
        return here.marks.size();
    }

    public int forget(int what) {
        if (!within(what, 0, 2)) {
            return refused(BAD);
        }
        Ledger told = what == 0 ? here.roses : what == 1 ? here.notes : here.marks;
        int were = told.size();
        told.empty();
        return were;
    }

    public int is(int f) {
        if (!isFlower(f)) {
            return refused(BAD);
        }
        return findings.flowerKinds(f);
    }

    public int look(int f) {
        if (!isFlower(f)) {
            return refused(BAD);
        }
        return findings.lookingNight(f);
    }

    public int kinds(int i) {
        if (!isSleeper(i)) {
            return refused(BAD);
        }
        return findings.sleeperKinds(i);
    }

    public int ask(int i) {
        if (!isSleeper(i)) {
            return refused(BAD);
        }
        return findings.asking(i);
    }

    public int senders(int a, int b, int k) {
        if (!isFlower(a) || !isFlower(b) || a == b || k < NONE) {
            refused(BAD);
            return BAD_HERE;
        }
        return foresight.restingPair(a, b, k);
    }

    public int slips(int i, int c) {
        if (!isSleeper(i) || !within(c, 0, TENTHS)) {
            return refused(BAD);
        }
        keepTenths(foresight.tenthsBelieved(i, c));
        return 1;
    }

    public int decades(int seed, int n) {
        if (!within(seed, 0, 999999) || !within(n, 0, FAR)) {
            return refused(BAD);
        }
        return foresight.doingBehindDecades(seed, n);
    }

    // ---- what there is

    public long part(int what) {
        if (!within(what, 0, 1)) {
            return refused(BAD);
        }
        return what == 0 ? above : below;
    }

    public int image(int i) {
        if (!within(i, 0, 1)) {
            return refused(BAD);
        }
        imageAt(i).keep(here);
        return 1;
    }

    public int from(int i) {
        if (!within(i, 0, 1)) {
            return refused(BAD);
        }
        Image image = imageAt(i);
        if (!image.wasKept) {
            return refused(NO);
        }
        here.takeFrom(image.kept);
        return 1;
    }

    public int status(int what) {
        switch (what) {
            case 0:
                return badOnes;
            case 1:
                return noOnes;
            case 2:
                return fullOnes;
            default:
                refused(BAD);
                return NO_SUCH_STATUS;
        }
    }

    public int count(int what) {
        if (!within(what, 0, 9)) {
            return refused(BAD);
        }
        return counted(what);
    }

    public long digest() {
        long h = 1609;
        for (int what = 0; what <= 9; what++) {
            h = 31 * h + counted(what);
        }
        h = here.sleepers.mixedInto(h);
        h = here.flowers.mixedInto(h);
        h = here.roses.mixedInto(h);
        h = here.notes.mixedInto(h);
        h = here.marks.mixedInto(h);
        h = 31 * h + above;
        return 31 * h + below;
    }

    // ---- helpers of the face

    private int refused(int why) {
        if (why == BAD) {
            badOnes++;
        } else if (why == NO) {
            noOnes++;
        } else {
            fullOnes++;
        }
        return why;
    }

    private boolean isSleeper(int i) {
        return i >= 0 && i < here.sleepers.size();
    }

    private boolean isFlower(int f) {
        return f >= 0 && f < here.flowers.size();
    }

    private Image imageAt(int i) {
        return i == 0 ? imageZero : imageOne;
    }

    // Of 10 only 10, 5, 2 and 1 are divisors, so the first one downwards that fits gives lowest terms.
    private void keepTenths(int tenths) {
        above = tenths;
        below = TENTHS;
        for (int d = TENTHS; d > 1; d--) {
            if (TENTHS % d == 0 && tenths % d == 0) {
                above = tenths / d;
                below = TENTHS / d;
                return;
            }
        }
    }

    private int counted(int what) {
        switch (what) {
            case 0:
                return here.sleepers.size();
            case 1:
                return here.flowers.size();
            case 2:
                return here.night;
            case 3:
                return here.doing();
            case 4:
                return here.mindsTogether();
            case 5:
                return here.roses.size();
            case 6:
                return here.notes.size();
            case 7:
                return here.marks.size();
            case 8:
                return here.moments.size();
            default:
                return text.size();
        }
    }

    private static boolean within(int v, int low, int high) {
        return v >= low && v <= high;
    }

    private static boolean isPillow(int p) {
        return p >= 0 && p < PILLOWS;
    }

    // All rows but a ledger's are read and written by these two, so that no index goes unlooked at.
    private static int at(int[] row, int k) {
        return k >= 0 && k < row.length ? row[k] : 0;
    }

    private static void put(int[] row, int k, int v) {
        if (k >= 0 && k < row.length) {
            row[k] = v;
        }
    }

    private static boolean holds(int set, int k) {
        return ((set >> k) & 1) != 0;
    }

    // Kinds stand under one another: what the upper ones tell is worked out ahead, as the lower ones build on it.
    private static int loudness(int kind, int w, int n) {
        int dahlia = w;
        int lily = dahlia + 2;
        int rose = n % 3 == 0 ? 2 * dahlia : dahlia;
        switch (kind) {
            case 1:
                return lily;
            case 2:
                return rose;
            case 3:
                return (dahlia + 1) / 2;
            case 4:
                return n % 2 == 0 ? lily : 0;
            case 5:
                return rose > 3 ? rose - 3 : 0;
            default:
                return dahlia;
        }
    }

    // Kinds stand under one another here, too: deaf and politician are plain with something done to it.
    private static int belief(int kind, int x, int c) {
        int plain = x > c ? x - c : 0;
        int deaf = plain / 2;
        int politician = x >= 1 ? plain + 1 : plain;
        switch (kind) {
            case 1:
                return deaf;
            case 2:
                return politician;
            case 3:
                return x < 4 ? 0 : deaf;
            case 4:
                return plain < 5 ? plain : 5;
            case 5:
                return 2 * politician;
            default:
                return plain;
        }
    }

    /** Rows of numbers, made once; a cell that is not there reads as 0 and takes nothing. */
    private static final class Ledger {
        private final int wide;
        private final int[] cells;
        private int rows;

        Ledger(int most, int wide) {
            this.wide = wide;
            cells = new int[most > 0 && wide > 0 ? most * wide : 0];
        }

        int size() {
            return rows;
        }

        boolean isFull() {
            return (rows + 1) * wide > cells.length;
        }

        void empty() {
            rows = 0;
        }

        int cell(int row, int column) {
            int k = row * wide + column;
            boolean there = row >= 0 && row < rows && column >= 0 && column < wide;
            return there && k >= 0 && k < cells.length ? cells[k] : 0;
        }

        void write(int row, int column, int v) {
            int k = row * wide + column;
            boolean there = row >= 0 && row < rows && column >= 0 && column < wide;
            if (there && k >= 0 && k < cells.length) {
                cells[k] = v;
            }
        }

        // A narrower ledger takes as many of the four as it has columns.
        void add(int a, int b, int c, int d) {
            if (!isFull()) {
                rows++;
                write(rows - 1, 0, a);
                write(rows - 1, 1, b);
                write(rows - 1, 2, c);
                write(rows - 1, 3, d);
            }
        }

        void dropFirst() {
            for (int k = wide; k < rows * wide; k++) {
                put(cells, k - wide, at(cells, k));
            }
            dropLast();
        }

        void dropLast() {
            if (rows > 0) {
                rows--;
            }
        }

        void takeFrom(Ledger other) {
            rows = other.rows;
            for (int k = 0; k < rows * wide; k++) {
                put(cells, k, at(other.cells, k));
            }
        }

        long mixedInto(long before) {
            long h = before;
            for (int k = 0; k < rows * wide; k++) {
                h = 31 * h + at(cells, k);
            }
            return h;
        }
    }

    /** All that an image keeps: who lies where, what is sent where, what was told, what may be undone. */
    private static final class Office {
        // Where in a moment each thing stands that undo brings back.
        private static final int LAY = 0, HAD_WOOL = 6, HAD_MIND = 12, WAS_SENT = 18, WAS_NIGHT = 24;

        private final Ledger sleepers;
        private final Ledger flowers;
        private final Ledger roses;
        private final Ledger notes;
        private final Ledger marks;
        private final Ledger moments;
        private int night;

        Office() {
            sleepers = new Ledger(MOST_SLEEPERS, 4);
            flowers = new Ledger(MOST_FLOWERS, 3);
            roses = new Ledger(MOST_ROSES, 3);
            notes = new Ledger(MOST_NOTES, 4);
            marks = new Ledger(MOST_MARKS, 4);
            moments = new Ledger(MOST_UNDONE, WAS_NIGHT + 1);
        }

        void startAnew() {
            sleepers.empty();
            flowers.empty();
            roses.empty();
            notes.empty();
            marks.empty();
            moments.empty();
            night = 0;
        }

        void takeFrom(Office other) {
            sleepers.takeFrom(other.sleepers);
            flowers.takeFrom(other.flowers);
            roses.takeFrom(other.roses);
            notes.takeFrom(other.notes);
            marks.takeFrom(other.marks);
            moments.takeFrom(other.moments);
            night = other.night;
        }

        void addSleeper(int kind, int wool) {
            int pillow = 0;
            while (pillow < PILLOWS - 1 && sleeperOn(pillow) != NONE) {
                pillow++;
            }
            sleepers.add(kind, pillow, wool, 0);
            moments.empty();
        }

        void addFlower(int kind, int word, int pillow) {
            flowers.add(kind, word, pillow, 0);
            moments.empty();
        }

        int sleeperOn(int pillow) {
            for (int i = 0; i < sleepers.size(); i++) {
                if (sleepers.cell(i, PILLOW) == pillow) {
                    return i;
                }
            }
            return NONE;
        }

        void changePillows(int a, int b) {
            int onA = sleeperOn(a);
            int onB = sleeperOn(b);
            sleepers.write(onA, PILLOW, b);
            sleepers.write(onB, PILLOW, a);
        }

        void passNights(int n) {
            for (int k = 0; k < n && night < LAST_NIGHT; k++) {
                passNight();
            }
        }

        // Decades go beyond the last night, so the end of all nights is looked at in passNights alone.
        void passNight() {
            for (int i = 0; i < sleepers.size(); i++) {
                int mind = sleepers.cell(i, MIND) + believedOn(sleepers.cell(i, PILLOW), i, NONE, night);
                sleepers.write(i, MIND, Math.min(MOST_MIND, mind));
            }
            night++;
        }

        int doing() {
            int many = 0;
            for (int i = 0; i < sleepers.size(); i++) {
                if (sleepers.cell(i, MIND) >= DOES_IT) {
                    many++;
                }
            }
            return many;
        }

        int mindsTogether() {
            int all = 0;
            for (int i = 0; i < sleepers.size(); i++) {
                all += sleepers.cell(i, MIND);
            }
            return all;
        }

        int toldBy(int f, int n) {
            return loudness(flowers.cell(f, KIND), flowers.cell(f, WORD), n);
        }

        int believedOf(int i, int f, int n) {
            return belief(sleepers.cell(i, KIND), toldBy(f, n), sleepers.cell(i, WOOL));
        }

        // What sleeper i would believe in night n of all flowers that are sent to a pillow, and of one more.
        int believedOn(int pillow, int i, int oneMore, int n) {
            int kind = sleepers.cell(i, KIND);
            int wool = sleepers.cell(i, WOOL);
            int all = 0;
            for (int f = 0; f < flowers.size(); f++) {
                if (flowers.cell(f, SENT_TO) == pillow || f == oneMore) {
                    all += belief(kind, toldBy(f, n), wool);
                }
            }
            return all;
        }

        void remember() {
            if (moments.isFull()) {
                moments.dropFirst();
            }
            moments.add(0, 0, 0, 0);
            int last = moments.size() - 1;
            for (int i = 0; i < sleepers.size(); i++) {
                moments.write(last, LAY + i, sleepers.cell(i, PILLOW));
                moments.write(last, HAD_WOOL + i, sleepers.cell(i, WOOL));
                moments.write(last, HAD_MIND + i, sleepers.cell(i, MIND));
            }
            for (int f = 0; f < flowers.size(); f++) {
                moments.write(last, WAS_SENT + f, flowers.cell(f, SENT_TO));
            }
            moments.write(last, WAS_NIGHT, night);
        }

        void goBack() {
            int last = moments.size() - 1;
            for (int i = 0; i < sleepers.size(); i++) {
                sleepers.write(i, PILLOW, moments.cell(last, LAY + i));
                sleepers.write(i, WOOL, moments.cell(last, HAD_WOOL + i));
                sleepers.write(i, MIND, moments.cell(last, HAD_MIND + i));
            }
            for (int f = 0; f < flowers.size(); f++) {
                flowers.write(f, SENT_TO, moments.cell(last, WAS_SENT + f));
            }
            night = moments.cell(last, WAS_NIGHT);
            moments.dropLast();
        }
    }

    /** An office kept for later. */
    private static final class Image {
        private final Office kept;
        private boolean wasKept;

        Image() {
            kept = new Office();
        }

        void keep(Office office) {
            kept.takeFrom(office);
            wasKept = true;
        }
    }

    /** What would come of it, with nothing changed: nights ahead, other pillows, other sendings. */
    private static final class Foresight {
        private static final int ALL_TAKEN = 63;

        private final Office office;
        private final Office trial;
        private final int[] gains;
        private final int[] bestBehind;
        private final int[] firstGets;
        private final int[] secondGets;

        Foresight(Office office) {
            this.office = office;
            trial = new Office();
            gains = new int[MOST_SLEEPERS * PILLOWS];
            bestBehind = new int[ALL_TAKEN + 1];
            firstGets = new int[PILLOWS];
            secondGets = new int[PILLOWS];
        }

        int pillowOf(int i) {
            return office.sleepers.cell(i, PILLOW);
        }

        int believedTonight(int i) {
            return office.believedOn(pillowOf(i), i, NONE, office.night);
        }

        int mindBehind(int i, int m) {
            int mind = office.sleepers.cell(i, MIND);
            for (int k = 0; k < m; k++) {
                mind += office.believedOn(pillowOf(i), i, NONE, office.night + k);
            }
            return Math.min(MOST_MIND, mind);
        }

        int nightsTillDone(int i, int oneMore) {
            int mind = office.sleepers.cell(i, MIND);
            for (int k = 0; k <= FAR; k++) {
                if (mind >= DOES_IT) {
                    return k;
                }
                mind += office.believedOn(pillowOf(i), i, oneMore, office.night + k);
            }
            return NONE;
        }

        int soonestFlower(int i) {
            int best = NONE;
            int soonest = FAR + 1;
            for (int f = 0; f < office.flowers.size(); f++) {
                int k = nightsTillDone(i, f);
                if (k != NONE && k < soonest) {
                    soonest = k;
                    best = f;
                }
            }
            return best;
        }

        int leastWool(int i) {
            for (int c = 0; c <= MOST_WOOL; c++) {
                if (believesNothingWith(i, c)) {
                    return c;
                }
            }
            return NONE;
        }

        boolean believesNothingWith(int i, int c) {
            int kind = office.sleepers.cell(i, KIND);
            for (int f = 0; f < office.flowers.size(); f++) {
                boolean hears = office.flowers.cell(f, SENT_TO) == pillowOf(i);
                if (hears && belief(kind, office.toldBy(f, office.night), c) != 0) {
                    return false;
                }
            }
            return true;
        }

        // The best that sleepers not yet laid can add hangs on the pillows taken alone: 64 sets of
        // pillows are gone through instead of all ways to lie.
        int bestPlacing(boolean most, int i) {
            fillGains();
            for (int taken = ALL_TAKEN; taken >= 0; taken--) {
                put(bestBehind, taken, bestAdded(taken, most));
            }
            return i == NONE ? at(bestBehind, 0) : firstPillowOf(i);
        }

        void fillGains() {
            for (int i = 0; i < office.sleepers.size(); i++) {
                for (int p = 0; p < PILLOWS; p++) {
                    put(gains, i * PILLOWS + p, office.believedOn(p, i, NONE, office.night));
                }
            }
        }

        int addedOn(int taken, int p) {
            int next = Integer.bitCount(taken);
            return at(gains, next * PILLOWS + p) + at(bestBehind, taken | (1 << p));
        }

        int bestAdded(int taken, boolean most) {
            if (Integer.bitCount(taken) >= office.sleepers.size()) {
                return 0;
            }
            boolean found = false;
            int best = 0;
            for (int p = 0; p < PILLOWS; p++) {
                if (!holds(taken, p)) {
                    int added = addedOn(taken, p);
                    if (!found || (most ? added > best : added < best)) {
                        best = added;
                        found = true;
                    }
                }
            }
            return best;
        }

        int firstPillowOf(int i) {
            int taken = 0;
            int pillow = NONE;
            for (int s = 0; s <= i && s < MOST_SLEEPERS; s++) {
                pillow = firstBestPillow(taken);
                taken |= 1 << pillow;
            }
            return pillow;
        }

        int firstBestPillow(int taken) {
            int p = 0;
            while (p < PILLOWS - 1 && (holds(taken, p) || addedOn(taken, p) != at(bestBehind, taken))) {
                p++;
            }
            return p;
        }

        int restingPair(int a, int b, int k) {
            fillGets(firstGets, a);
            fillGets(secondGets, b);
            int found = 0;
            for (int i = 0; i < PILLOWS; i++) {
                for (int j = 0; j < PILLOWS; j++) {
                    if (stays(firstGets, i, j) && stays(secondGets, j, i)) {
                        if (found == k) {
                            return 10 * i + j;
                        }
                        found++;
                    }
                }
            }
            return k == NONE ? found : NOT_SO_MANY;
        }

        void fillGets(int[] row, int f) {
            for (int p = 0; p < PILLOWS; p++) {
                int i = office.sleeperOn(p);
                put(row, p, i == NONE ? 0 : office.believedOf(i, f, office.night));
            }
        }

        boolean stays(int[] row, int mine, int others) {
            for (int p = 0; p < PILLOWS; p++) {
                if (getsOn(row, p, others) > getsOn(row, mine, others)) {
                    return false;
                }
            }
            return true;
        }

        int getsOn(int[] row, int p, int others) {
            return p == others ? at(row, p) - 2 : at(row, p);
        }

        int tenthsBelieved(int i, int c) {
            int tenths = 0;
            for (int f = 0; f < office.flowers.size(); f++) {
                int p = office.flowers.cell(f, SENT_TO);
                int believed = office.believedOf(i, f, office.night);
                if (p == pillowOf(i)) {
                    tenths += (TENTHS - c) * believed;
                } else if ((p + 1) % PILLOWS == pillowOf(i)) {
                    tenths += c * believed;
                }
            }
            return tenths;
        }

        int doingBehindDecades(int seed, int n) {
            trial.takeFrom(office);
            long x = seed;
            for (int k = 0; k < n; k++) {
                x = (x * 1103515245L + 12345L) % 2147483648L;
                int f = (int) (x / 65536L % 6L);
                int p = (int) (x / 1048576L % 6L);
                trial.flowers.write(f, SENT_TO, p);
                trial.passNight();
            }
            return trial.doing();
        }
    }

    /** Of several looks the first by which the most that come out alike are fewest. */
    private static final class Tally {
        private final int[] seen;
        private int highest;
        private int most;
        private int bestLook;
        private int fewest;

        // No set of six flowers has anybody believe more than 228.
        Tally() {
            seen = new int[256];
            highest = NONE;
        }

        void startLooking() {
            bestLook = NONE;
            fewest = 0;
        }

        void startLook() {
            for (int v = 0; v <= highest; v++) {
                put(seen, v, 0);
            }
            highest = NONE;
            most = 0;
        }

        void see(int v) {
            int times = at(seen, v) + 1;
            put(seen, v, times);
            highest = Math.max(highest, v);
            most = Math.max(most, times);
        }

        void endLook(int look) {
            if (bestLook == NONE || most < fewest) {
                bestLook = look;
                fewest = most;
            }
        }
    }

    /** What must have been, by what was noticed: sets of flowers, kinds, and the look that parts them best. */
    private static final class Findings {
        private static final int SETS = 64;

        private final Office office;
        private final int[] fits;
        private final int[] believed;
        private final Tally tally;

        Findings(Office office) {
            this.office = office;
            fits = new int[SETS];
            believed = new int[MOST_FLOWERS];
            tally = new Tally();
        }

        void findSets(int i) {
            for (int set = 0; set < SETS; set++) {
                put(fits, set, set < (1 << office.flowers.size()) ? 1 : 0);
            }
            for (int r = 0; r < office.roses.size(); r++) {
                if (office.roses.cell(r, 0) == i) {
                    dropUnlike(i, office.roses.cell(r, 1), office.roses.cell(r, 2));
                }
            }
        }

        void dropUnlike(int i, int n, int x) {
            fillBelieved(i, n);
            for (int set = 0; set < SETS; set++) {
                if (believedOfSet(set) != x) {
                    put(fits, set, 0);
                }
            }
        }

        void fillBelieved(int i, int n) {
            for (int f = 0; f < office.flowers.size(); f++) {
                put(believed, f, office.believedOf(i, f, n));
            }
        }

        int believedOfSet(int set) {
            int all = 0;
            for (int f = 0; f < office.flowers.size(); f++) {
                if (holds(set, f)) {
                    all += at(believed, f);
                }
            }
            return all;
        }

        boolean fitting(int set) {
            return at(fits, set) == 1;
        }

        int howManySets() {
            int many = 0;
            for (int set = 0; set < SETS; set++) {
                many += at(fits, set);
            }
            return many;
        }

        int inAllSets() {
            if (howManySets() == 0) {
                return NONE;
            }
            int all = SETS - 1;
            for (int set = 0; set < SETS; set++) {
                if (fitting(set)) {
                    all &= set;
                }
            }
            return all;
        }

        int inSomeSet() {
            int some = 0;
            for (int set = 0; set < SETS; set++) {
                if (fitting(set)) {
                    some |= set;
                }
            }
            return some;
        }

        int tellingNight(int i) {
            if (howManySets() == 0) {
                return NONE;
            }
            tally.startLooking();
            for (int n = 0; n < LOOKS; n++) {
                seeSets(i, n);
                tally.endLook(n);
            }
            return tally.bestLook;
        }

        void seeSets(int i, int n) {
            fillBelieved(i, n);
            tally.startLook();
            for (int set = 0; set < SETS; set++) {
                if (fitting(set)) {
                    tally.see(believedOfSet(set));
                }
            }
        }

        int flowerKinds(int f) {
            int left = 0;
            for (int kind = 0; kind < KINDS; kind++) {
                if (agreesWithNotes(f, kind)) {
                    left |= 1 << kind;
                }
            }
            return left;
        }

        boolean agreesWithNotes(int f, int kind) {
            Ledger notes = office.notes;
            for (int r = 0; r < notes.size(); r++) {
                int loud = loudness(kind, notes.cell(r, 1), notes.cell(r, 2));
                if (notes.cell(r, 0) == f && loud != notes.cell(r, 3)) {
                    return false;
                }
            }
            return true;
        }

        int lookingNight(int f) {
            int left = flowerKinds(f);
            if (left == 0) {
                return NONE;
            }
            tally.startLooking();
            for (int n = 0; n < LOOKS; n++) {
                seeFlowerKinds(left, office.flowers.cell(f, WORD), n);
                tally.endLook(n);
            }
            return tally.bestLook;
        }

        void seeFlowerKinds(int left, int word, int n) {
            tally.startLook();
            for (int kind = 0; kind < KINDS; kind++) {
                if (holds(left, kind)) {
                    tally.see(loudness(kind, word, n));
                }
            }
        }

        int sleeperKinds(int i) {
            int left = 0;
            for (int kind = 0; kind < KINDS; kind++) {
                if (agreesWithMarks(i, kind)) {
                    left |= 1 << kind;
                }
            }
            return left;
        }

        boolean agreesWithMarks(int i, int kind) {
            Ledger marks = office.marks;
            for (int r = 0; r < marks.size(); r++) {
                int much = belief(kind, marks.cell(r, 1), marks.cell(r, 2));
                if (marks.cell(r, 0) == i && much != marks.cell(r, 3)) {
                    return false;
                }
            }
            return true;
        }

        // Wool has ten numbers, so the digits of a question are its loudness and its wool.
        int asking(int i) {
            int left = sleeperKinds(i);
            if (left == 0) {
                return NONE;
            }
            tally.startLooking();
            for (int question = 0; question < 10 * (MOST_LOUD + 1); question++) {
                seeSleeperKinds(left, question / 10, question % 10);
                tally.endLook(question);
            }
            return tally.bestLook;
        }

        void seeSleeperKinds(int left, int x, int c) {
            tally.startLook();
            for (int kind = 0; kind < KINDS; kind++) {
                if (holds(left, kind)) {
                    tally.see(belief(kind, x, c));
                }
            }
        }
    }

    /** Reads the text into items before any is done, so that a fault leaves the office as it is. */
    private static final class Reader {
        private static final int END = 0, OTHER = 1, NUMBER = 2, SEMICOLON = 3;
        private static final int OFFICE = 4, SLEEPER = 5, FLOWER = 6, SWAP = 7, NIGHTS = 8;
        private static final int BLANK = 32;

        // The shortest item but the first, as swap0 1; is, has eight bytes.
        private static final int MOST_ITEMS = MOST_BYTES / 8 + 1;

        private final Ledger text;
        private final Ledger tokens;
        private final Ledger items;
        private int place;
        private int now;
        private int toldSleepers;
        private int toldFlowers;

        Reader(Ledger text) {
            this.text = text;
            tokens = new Ledger(MOST_BYTES + 1, 3);
            items = new Ledger(MOST_ITEMS, 4);
        }

        // The token at which reading stood still; at the end of the text that is its length.
        int fault() {
            return tokens.cell(now, 1);
        }

        // How many items there are, or NONE: then fault tells where.
        int readItems() {
            splitText();
            items.empty();
            toldSleepers = 0;
            toldFlowers = 0;
            now = 0;
            if (token() != OFFICE || !ends()) {
                return NONE;
            }
            now++;
            while (now < tokens.size() && token() != END) {
                if (!readItem()) {
                    return NONE;
                }
                now++;
            }
            return items.size() + 1;
        }

        void doItems(Office office) {
            office.startAnew();
            for (int r = 0; r < items.size(); r++) {
                switch (items.cell(r, 0)) {
                    case SLEEPER:
                        office.addSleeper(items.cell(r, 1), items.cell(r, 2));
                        break;
                    case FLOWER:
                        office.addFlower(items.cell(r, 1), items.cell(r, 2), items.cell(r, 3));
                        break;
                    case SWAP:
                        office.changePillows(items.cell(r, 1), items.cell(r, 2));
                        break;
                    default:
                        office.passNights(items.cell(r, 1));
                        break;
                }
            }
        }

        boolean readItem() {
            switch (token()) {
                case SLEEPER:
                    toldSleepers++;
                    return toldSleepers <= MOST_SLEEPERS && readSleeper();
                case FLOWER:
                    toldFlowers++;
                    return toldFlowers <= MOST_FLOWERS && readFlower();
                case SWAP:
                    return readSwap();
                case NIGHTS:
                    return readNights();
                default:
                    return false;
            }
        }

        boolean readSleeper() {
            if (!numbered(0, KINDS - 1) || !numbered(0, MOST_WOOL) || !ends()) {
                return false;
            }
            items.add(SLEEPER, numberBack(2), numberBack(1), 0);
            return true;
        }

        boolean readFlower() {
            if (!numbered(0, KINDS - 1) || !numbered(1, MOST_WORD) || !numbered(0, PILLOWS - 1) || !ends()) {
                return false;
            }
            items.add(FLOWER, numberBack(3), numberBack(2), numberBack(1));
            return true;
        }

        boolean readSwap() {
            if (!numbered(0, PILLOWS - 1) || !numbered(0, PILLOWS - 1)) {
                return false;
            }
            int a = numberBack(1);
            int b = numberBack(0);
            if (a == b || !ends()) {
                return false;
            }
            items.add(SWAP, a, b, 0);
            return true;
        }

        boolean readNights() {
            if (!numbered(1, 99) || !ends()) {
                return false;
            }
            items.add(NIGHTS, numberBack(1), 0, 0);
            return true;
        }

        int token() {
            return tokens.cell(now, 0);
        }

        int numberBack(int tokensAgo) {
            return tokens.cell(now - tokensAgo, 2);
        }

        boolean numbered(int low, int high) {
            now++;
            return token() == NUMBER && within(numberBack(0), low, high);
        }

        boolean ends() {
            now++;
            return token() == SEMICOLON;
        }

        // The end is a token, too: it stands where the text is over.
        void splitText() {
            tokens.empty();
            place = 0;
            for (int k = 0; k < text.size() && place < text.size(); k++) {
                if (isLetter()) {
                    takeWord();
                } else if (isFigure()) {
                    takeNumber();
                } else {
                    takeSign();
                }
            }
            tokens.add(END, text.size(), 0, 0);
        }

        void takeSign() {
            int c = text.cell(place, 0);
            if (c != BLANK) {
                tokens.add(c == ';' ? SEMICOLON : OTHER, place, 0, 0);
            }
            place++;
        }

        void takeWord() {
            int start = place;
            while (place < text.size() && isLetter()) {
                place++;
            }
            tokens.add(wordFrom(start), start, 0, 0);
        }

        void takeNumber() {
            int start = place;
            int number = 0;
            while (place < text.size() && isFigure()) {
                number = 10 * number + text.cell(place, 0) - '0';
                place++;
            }
            tokens.add(place - start <= 2 ? NUMBER : OTHER, start, number, 0);
        }

        int wordFrom(int start) {
            if (wordIs("office", start)) {
                return OFFICE;
            }
            if (wordIs("sleeper", start)) {
                return SLEEPER;
            }
            if (wordIs("flower", start)) {
                return FLOWER;
            }
            if (wordIs("swap", start)) {
                return SWAP;
            }
            return wordIs("nights", start) ? NIGHTS : OTHER;
        }

        boolean wordIs(String word, int start) {
            if (place - start != word.length()) {
                return false;
            }
            for (int k = 0; k < word.length(); k++) {
                if (text.cell(start + k, 0) != word.charAt(k)) {
                    return false;
                }
            }
            return true;
        }

        boolean isLetter() {
            return within(text.cell(place, 0), 'a', 'z');
        }

        boolean isFigure() {
            return within(text.cell(place, 0), '0', '9');
        }
    }
}

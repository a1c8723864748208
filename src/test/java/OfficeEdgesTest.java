/** The edges that the document names under Terms (but for the text) and in promises 1 to 4, sentence by sentence. */
final class OfficeEdgesTest {
    private static void numbersOfSleepers() {
        Check.says("SLEEPERS 0 .. 5, as they come");
        EarwigPost x = new EarwigPost();
        for (int i = 0; i < 6; i++) {
            Check.due("ahead of sleeper " + i, x.of(i, 0), -2);
            Check.due("sleeper " + i, x.sleeper(5 - i), i);
            Check.due("kind of " + i, x.of(i, 0), 5 - i);
        }
        Check.due("of(6, 0)", x.of(6, 0), -2);
        Check.due("of(-1, 0)", x.of(-1, 0), -2);

        Check.says("A SLEEPER: the number. BAD; FULL: 6.");
        Check.due("a 7th sleeper", x.sleeper(0), -4);
        Check.due("there are six", x.count(0), 6);
        Check.due("the last is as he was", x.of(5, 0), 0);
        Check.due("a 7th of kind 5", x.sleeper(5), -4);
        Check.due("kind 6", new EarwigPost().sleeper(6), -2);
        Check.due("kind -1", new EarwigPost().sleeper(-1), -2);
        Check.due("kind 5", new EarwigPost().sleeper(5), 0);
        Check.due("kind 0", new EarwigPost().sleeper(0), 0);
    }

    private static void firstPillows() {
        Check.says("each on the first PILLOW where nobody lies, at first");
        dueNext("", 0);
        dueNext("sleeper0 0;", 1);
        dueNext("sleeper0 0;swap0 5;", 0);
        dueNext("sleeper0 0;sleeper0 0;swap0 5;", 0);
        dueNext("sleeper0 0;sleeper0 0;sleeper0 0;swap1 4;", 1);
        dueNext("sleeper0 0;sleeper0 0;sleeper0 0;sleeper0 0;sleeper0 0;", 5);
        dueNext("sleeper0 0;sleeper0 0;sleeper0 0;sleeper0 0;sleeper0 0;swap0 5;", 0);
        dueNext("sleeper0 0;sleeper0 0;sleeper0 0;sleeper0 0;sleeper0 0;swap5 3;", 3);
    }

    private static void dueNext(String items, int pillow) {
        EarwigPost x = Given.told(items);
        int i = x.sleeper(0);
        Check.due("pillow of the next behind '" + items + "'", x.of(i, 1), pillow);
        EarwigPost y = Given.told(items + "sleeper0 0;");
        Check.due("pillow of the next in '" + items + "'", y.of(i, 1), pillow);
    }

    private static void woolAndMindAtFirst() {
        Check.says("WOOL (0 .. 9; 0 at first), a MIND (0 .. 999; 0 at first)");
        EarwigPost x = Given.told("sleeper5 9;flower0 9 0;nights60;");
        Check.due("wool as told", x.of(0, 2), 9);
        int i = x.sleeper(0);
        Check.due("wool at first", x.of(i, 2), 0);
        Check.due("mind at first", x.of(i, 3), 0);
        Check.due("wool 10", x.wool(i, 10), -2);
        Check.due("wool -1", x.wool(i, -1), -2);
        Check.due("wool 9", x.wool(i, 9), 0);
        Check.due("wool 0", x.wool(i, 0), 9);
        x.office();
        x.sleeper(5);
        Check.due("mind at first, behind one who had some", x.of(0, 3), 0);
        Check.due("wool at first, behind one who had some", x.of(0, 2), 0);
    }

    private static void flowers() {
        Check.says("FLOWERS 0 .. 5, as they come: a KIND, a WORD (1 .. 9), a PILLOW to which it is sent");
        EarwigPost x = new EarwigPost();
        for (int f = 0; f < 6; f++) {
            Check.due("ahead of flower " + f, x.about(f, 0), -2);
            Check.due("flower " + f, x.flower(5 - f, f == 5 ? 9 : f + 1, f), f);
            Check.due("kind of " + f, x.about(f, 0), 5 - f);
            Check.due("word of " + f, x.about(f, 1), f == 5 ? 9 : f + 1);
            Check.due("pillow of " + f, x.about(f, 2), f);
        }
        Check.due("about(6, 0)", x.about(6, 0), -2);

        Check.says("A FLOWER: its number. BAD; FULL: 6.");
        Check.due("a 7th flower", x.flower(0, 1, 0), -4);
        Check.due("there are six", x.count(1), 6);
        Check.due("the last is as it was", x.about(5, 1), 9);
        EarwigPost y = new EarwigPost();
        Check.due("kind -1", y.flower(-1, 1, 0), -2);
        Check.due("kind 6", y.flower(6, 1, 0), -2);
        Check.due("word 0", y.flower(0, 0, 0), -2);
        Check.due("word 10", y.flower(0, 10, 0), -2);
        Check.due("pillow -1", y.flower(0, 1, -1), -2);
        Check.due("pillow 6", y.flower(0, 1, 6), -2);
        Check.due("kind 5, word 9, pillow 5", y.flower(5, 9, 5), 0);
        Check.due("kind 0, word 1, pillow 0", y.flower(0, 1, 0), 1);
    }

    private static void loudness() {
        Check.says("0 DAHLIA: w.");
        dueTold(0, 1, 0, 1);
        dueTold(0, 9, 0, 9);
        dueTold(0, 9, 1, 9);
        Check.says("1 LILY (under DAHLIA): 2 more than DAHLIA.");
        dueTold(1, 1, 0, 3);
        dueTold(1, 9, 0, 11);
        dueTold(1, 9, 3, 11);
        Check.says("2 ROSE (under DAHLIA): twice DAHLIA, if 3 divides n, else as DAHLIA.");
        dueTold(2, 1, 0, 2);
        dueTold(2, 9, 0, 18);
        dueTold(2, 9, 1, 9);
        dueTold(2, 9, 2, 9);
        dueTold(2, 9, 3, 18);
        dueTold(2, 9, 998, 9);
        dueTold(2, 9, 999, 18);
        Check.says("3 WEED (under DAHLIA): half (cut up) of DAHLIA.");
        dueTold(3, 1, 0, 1);
        dueTold(3, 2, 0, 1);
        dueTold(3, 3, 3, 2);
        dueTold(3, 8, 0, 4);
        dueTold(3, 9, 0, 5);
        Check.says("4 TULIP (under LILY): as LILY in NIGHTS of an even number, else 0.");
        dueTold(4, 1, 0, 3);
        dueTold(4, 1, 1, 0);
        dueTold(4, 9, 2, 11);
        dueTold(4, 9, 3, 0);
        dueTold(4, 9, 998, 11);
        dueTold(4, 9, 999, 0);
        Check.says("5 SEALED (under ROSE): ROSE less 3, 0 at least.");
        dueTold(5, 1, 0, 0);
        dueTold(5, 2, 0, 1);
        dueTold(5, 9, 0, 15);
        dueTold(5, 1, 1, 0);
        dueTold(5, 3, 1, 0);
        dueTold(5, 4, 1, 1);
        dueTold(5, 9, 2, 6);
        dueTold(5, 9, 999, 15);
    }

    private static void dueTold(int kind, int word, int night, int loud) {
        EarwigPost x = Given.inNight(night);
        x.flower(kind, word, 0);
        Check.due("word " + word + " in night " + night, x.about(0, 3), loud);
    }

    private static void belief() {
        Check.says("0 PLAIN: x less c, 0 at least.");
        dueBelieved(0, 0, 0, 0);
        dueBelieved(0, 18, 0, 18);
        dueBelieved(0, 18, 9, 9);
        dueBelieved(0, 5, 4, 1);
        dueBelieved(0, 5, 5, 0);
        dueBelieved(0, 5, 6, 0);
        dueBelieved(0, 0, 9, 0);
        Check.says("1 DEAF (under PLAIN): half (cut) of PLAIN.");
        dueBelieved(1, 1, 0, 0);
        dueBelieved(1, 2, 0, 1);
        dueBelieved(1, 3, 0, 1);
        dueBelieved(1, 9, 2, 3);
        dueBelieved(1, 3, 9, 0);
        Check.says("2 POLITICIAN (under PLAIN): 1 more than PLAIN, if x is 1 or more.");
        dueBelieved(2, 0, 0, 0);
        dueBelieved(2, 0, 9, 0);
        dueBelieved(2, 1, 0, 2);
        dueBelieved(2, 1, 1, 1);
        dueBelieved(2, 1, 9, 1);
        dueBelieved(2, 18, 0, 19);
        Check.says("3 LADY (under DEAF): as DEAF, but 0, if x is below 4.");
        dueBelieved(3, 2, 0, 0);
        dueBelieved(3, 3, 0, 0);
        dueBelieved(3, 4, 0, 2);
        dueBelieved(3, 4, 2, 1);
        dueBelieved(3, 5, 3, 1);
        dueBelieved(3, 4, 3, 0);
        Check.says("4 CLERK (under PLAIN): PLAIN, 5 at most.");
        dueBelieved(4, 4, 0, 4);
        dueBelieved(4, 5, 0, 5);
        dueBelieved(4, 6, 0, 5);
        dueBelieved(4, 18, 0, 5);
        dueBelieved(4, 9, 5, 4);
        dueBelieved(4, 9, 3, 5);
        dueBelieved(4, 1, 2, 0);
        Check.says("5 ACTRESS (under POLITICIAN): twice POLITICIAN.");
        dueBelieved(5, 0, 0, 0);
        dueBelieved(5, 0, 9, 0);
        dueBelieved(5, 1, 9, 2);
        dueBelieved(5, 1, 0, 4);
        dueBelieved(5, 18, 0, 38);
    }

    // Something is told so loud: nothing by a tulip in night 1, what is more than 9 by a rose in night 0.
    private static void dueBelieved(int kind, int loud, int wool, int much) {
        EarwigPost x = Given.inNight(loud == 0 ? 1 : 0);
        x.sleeper(kind);
        x.wool(0, wool);
        if (loud == 0) {
            x.flower(4, 1, 0);
        } else if (loud <= 9) {
            x.flower(0, loud, 0);
        } else {
            x.flower(2, loud / 2, 0);
        }
        Check.due("it is told " + loud + " loud", x.about(0, 3), loud);
        Check.due("of " + loud + " with wool " + wool, x.believes(0, 0), much);
    }

    private static void aNight() {
        Check.says("each FLOWER TELLS its WORD on its PILLOW; who lies there (if somebody does) BELIEVES what it is");
        EarwigPost x = Given.told("flower0 9 0;flower0 9 5;");
        Check.due("nobody lies anywhere", x.nights(1), 0);
        x.sleeper(0);
        x.nights(1);
        Check.due("on his pillow", x.of(0, 3), 9);
        x.swaps(0, 1);
        x.nights(1);
        Check.due("not beside it", x.of(0, 3), 9);
        x.swaps(1, 5);
        x.nights(1);
        Check.due("on pillow 5", x.of(0, 3), 18);

        Check.says("each FLOWER apart");
        dueMind("sleeper0 3;flower0 2 0;flower0 2 0;nights1;", 0);
        dueMind("sleeper1 0;flower0 1 0;flower0 1 0;nights1;", 0);
        dueMind("sleeper2 0;flower0 1 0;flower0 1 0;nights1;", 4);
        dueMind("sleeper3 0;flower0 3 0;flower0 3 0;nights1;", 0);
        dueMind("sleeper4 0;flower0 9 0;flower0 9 0;nights1;", 10);
        dueMind("sleeper5 0;flower0 1 0;flower0 1 0;nights1;", 8);

        Check.says("MIND is by all of that more (999 at most); the NIGHT is one more.");
        x = Given.told("sleeper5 0;flower0 9 0;nights49;");
        Check.due("20 in each of 49 nights", x.of(0, 3), 980);
        x.wool(0, 1);
        x.nights(1);
        Check.due("18 more", x.of(0, 3), 998);
        Check.due("night 50", x.count(2), 50);
        x.nights(1);
        Check.due("999 at most", x.of(0, 3), 999);
        x.nights(1);
        Check.due("999 stays", x.of(0, 3), 999);
        Check.due("night 52", x.count(2), 52);
        dueMind("sleeper0 0;flower0 9 0;flower0 9 0;flower0 9 0;nights37;", 999);
        dueMind("sleeper0 0;flower0 9 0;flower0 9 0;flower0 9 0;nights38;", 999);

        Check.says("who has a MIND of 20 or more does it");
        Check.due("19", Given.told("sleeper0 0;flower0 9 0;flower0 9 0;flower0 1 0;nights1;").count(3), 0);
        Check.due("20", Given.told("sleeper0 0;flower0 9 0;flower0 9 0;flower0 2 0;nights1;").count(3), 1);
        Check.due("21", Given.told("sleeper0 0;flower0 9 0;flower0 9 0;flower0 3 0;nights1;").count(3), 1);
    }

    private static void dueMind(String items, int mind) {
        Check.due("mind behind '" + items + "'", Given.told(items).of(0, 3), mind);
    }

    private static void nightsHaveNumbers() {
        Check.says("NIGHTS have numbers, 0 at first (999 at most)");
        Check.due("at first", new EarwigPost().count(2), 0);
        Check.due("999", Given.inNight(999).count(2), 999);
        EarwigPost x = Given.inNight(998);
        Check.due("998", x.count(2), 998);
        x.nights(1);
        Check.due("one more", x.count(2), 999);
        x.nights(1);
        Check.due("no more", x.count(2), 999);
        x = Given.inNight(998);
        x.nights(60);
        Check.due("60 more", x.count(2), 999);
    }

    private static void aNewObject() {
        Check.says("As told; nobody is there.");
        EarwigPost x = new EarwigPost();
        for (int what = 0; what <= 9; what++) {
            Check.due("count(" + what + ")", x.count(what), 0);
        }
        for (int i = 0; i < 6; i++) {
            Check.due("of(" + i + ", 0)", x.of(i, 0), -2);
            Check.due("about(" + i + ", 0)", x.about(i, 0), -2);
        }
        Check.due("only these twelve were refused", x.status(0), 12);
        Check.due("none as NO", x.status(1), 0);
        Check.due("none as FULL", x.status(2), 0);
    }

    private static void office() {
        Check.says("All as at first (but for IMAGES, THE TEXT, THE FRACTION, STATUS): how many SLEEPERS there were.");
        EarwigPost x = Given.full();
        long kept = x.digest();
        x.image(1);
        x.sleeper(0);
        x.undo();
        long above = x.part(0);
        long below = x.part(1);
        int full = x.status(2);
        Check.due("six there were", x.office(), 6);
        for (int what = 0; what <= 8; what++) {
            Check.due("count(" + what + ")", x.count(what), 0);
        }
        Check.due("the text", x.count(9), 150);
        Check.due("the fraction, above", x.part(0), above);
        Check.due("the fraction, below", x.part(1), below);
        Check.due("status", x.status(2), full);
        Check.due("nobody to be undone", x.undo(), -3);
        Check.due("image 1", x.from(1), 1);
        Check.due("all of it", x.digest(), kept);
        Check.due("none there were", new EarwigPost().office(), 0);
        Check.due("an empty one may be told again", Given.told("").office(), 0);
    }

    public static void main(String[] args) {
        numbersOfSleepers();
        firstPillows();
        woolAndMindAtFirst();
        flowers();
        loudness();
        belief();
        aNight();
        nightsHaveNumbers();
        aNewObject();
        office();
        Check.end();
    }
}

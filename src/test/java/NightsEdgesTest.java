/** The edges that the document names in promises 8 to 14 and of UNDO, sentence by sentence. */
final class NightsEdgesTest {
    private static void nights() {
        Check.says("n NIGHTS go by (1 .. 60; together one that may be undone, also if none goes by; "
            + "at 999 none goes by): how many do it. BAD.");
        EarwigPost x = Given.told("sleeper0 0;flower0 1 0;");
        Check.due("nights(0)", x.nights(0), -2);
        Check.due("nights(-1)", x.nights(-1), -2);
        Check.due("nights(61)", x.nights(61), -2);
        Check.due("none went by", x.count(2), 0);
        Check.due("none may be undone", x.count(8), 0);
        Check.due("nights(60)", x.nights(60), 1);
        Check.due("60 went by", x.count(2), 60);
        Check.due("his mind", x.of(0, 3), 60);
        Check.due("together one", x.count(8), 1);
        Check.due("undone together", x.undo(), 0);
        Check.due("his mind then", x.of(0, 3), 0);
        Check.due("nights(1)", x.nights(1), 0);
        Check.due("his mind behind one", x.of(0, 3), 1);
        Check.due("at 19", x.nights(18), 0);
        Check.due("at 20", x.nights(1), 1);
        Check.due("who does it already counts on", x.nights(1), 1);
        x = Given.told("sleeper0 0;sleeper0 0;sleeper0 0;flower0 9 0;flower0 8 2;");
        Check.due("nobody at 18", x.nights(2), 0);
        Check.due("two at 27, 24", x.nights(1), 2);
    }

    private static void nightsAtTheEnd() {
        Check.says("at 999 none goes by");
        EarwigPost x = Given.inNight(998);
        x.sleeper(0);
        x.flower(0, 1, 0);
        Check.due("60 from 998", x.nights(60), 0);
        Check.due("one went by", x.count(2), 999);
        Check.due("one told", x.of(0, 3), 1);
        Check.due("one may be undone", x.count(8), 1);
        Check.due("nights(1) at 999", x.nights(1), 0);
        Check.due("none told", x.of(0, 3), 1);
        Check.due("still 999", x.count(2), 999);
        Check.due("nights(61) at 999", x.nights(61), -2);

        Check.says("also if none goes by");
        Check.due("two may be undone", x.count(8), 2);
        Check.due("nights(60) at 999", x.nights(60), 0);
        Check.due("three may be undone", x.count(8), 3);
        Check.due("the last that was none", x.undo(), 999);
        Check.due("the other that was none", x.undo(), 999);
        Check.due("his mind is as it was", x.of(0, 3), 1);
        Check.due("the one that was", x.undo(), 998);
        Check.due("his mind then", x.of(0, 3), 0);
    }

    private static void swaps() {
        Check.says("Who lies on PILLOWS a, b changes: how many lie there. BAD: alike, too; NO: nobody lies there.");
        EarwigPost x = Given.told("sleeper0 0;sleeper1 0;");
        Check.due("alike, somebody lies there", x.swaps(0, 0), -2);
        Check.due("alike, nobody lies there", x.swaps(5, 5), -2);
        Check.due("alike, no pillow", x.swaps(6, 6), -2);
        Check.due("swaps(-1, 0)", x.swaps(-1, 0), -2);
        Check.due("swaps(0, -1)", x.swaps(0, -1), -2);
        Check.due("swaps(6, 0)", x.swaps(6, 0), -2);
        Check.due("swaps(0, 6)", x.swaps(0, 6), -2);
        Check.due("nobody on 2, 5", x.swaps(2, 5), -3);
        Check.due("nobody on 5, 2", x.swaps(5, 2), -3);
        Check.due("none may be undone", x.count(8), 0);
        Check.due("two", x.swaps(0, 1), 2);
        Check.due("pillow of 0", x.of(0, 1), 1);
        Check.due("pillow of 1", x.of(1, 1), 0);
        Check.due("one, told first", x.swaps(0, 5), 1);
        Check.due("pillow of 1 then", x.of(1, 1), 5);
        Check.due("nobody there any more", x.swaps(0, 2), -3);
        Check.due("one, told last", x.swaps(0, 5), 1);
        Check.due("pillow of 1 at last", x.of(1, 1), 0);
        Check.due("the other stayed", x.of(0, 1), 1);
        Check.due("three may be undone", x.count(8), 3);
        Check.due("with nobody at all", new EarwigPost().swaps(0, 1), -3);
    }

    private static void wool() {
        Check.says("WOOL of a SLEEPER: what it was. BAD; NO: it is so.");
        EarwigPost x = new EarwigPost();
        Check.due("of nobody", x.wool(0, 0), -2);
        x.sleeper(0);
        Check.due("it is 0", x.wool(0, 0), -3);
        Check.due("wool(0, 10)", x.wool(0, 10), -2);
        Check.due("wool(0, -1)", x.wool(0, -1), -2);
        Check.due("wool(1, 1)", x.wool(1, 1), -2);
        Check.due("wool(-1, 1)", x.wool(-1, 1), -2);
        Check.due("none may be undone", x.count(8), 0);
        Check.due("wool(0, 9)", x.wool(0, 9), 0);
        Check.due("it is 9", x.wool(0, 9), -3);
        Check.due("wool(0, 0)", x.wool(0, 0), 9);
        Check.due("two may be undone", x.count(8), 2);
    }

    private static void sends() {
        Check.says("A FLOWER is sent to a PILLOW: where it was sent. BAD; NO: it is so.");
        EarwigPost x = new EarwigPost();
        Check.due("no flower", x.sends(0, 0), -2);
        x.flower(0, 1, 0);
        Check.due("it is sent to 0", x.sends(0, 0), -3);
        Check.due("sends(0, 6)", x.sends(0, 6), -2);
        Check.due("sends(0, -1)", x.sends(0, -1), -2);
        Check.due("sends(1, 1)", x.sends(1, 1), -2);
        Check.due("sends(-1, 1)", x.sends(-1, 1), -2);
        Check.due("none may be undone", x.count(8), 0);
        Check.due("sends(0, 5)", x.sends(0, 5), 0);
        Check.due("it is sent to 5", x.sends(0, 5), -3);
        Check.due("sends(0, 0)", x.sends(0, 0), 5);
        Check.due("two may be undone", x.count(8), 2);
    }

    private static void undo() {
        Check.says("UNDO: the NIGHT then. NO: none may be.");
        EarwigPost x = new EarwigPost();
        Check.due("of a new object", x.undo(), -3);
        x.nights(60);
        x.nights(1);
        Check.due("back to 60", x.undo(), 60);
        Check.due("back to 0", x.undo(), 0);
        Check.due("no more", x.undo(), -3);
        Check.due("what is undone may not be undone itself", x.count(8), 0);
        x.nights(2);
        Check.due("anew", x.undo(), 0);

        Check.says("where SLEEPERS lie, WOOL, MINDS, where FLOWERS are sent, the NIGHT as ahead of the last "
            + "NIGHTS gone by, PILLOWS changed, WOOL, FLOWER sent");
        x = Given.told("sleeper0 1;sleeper5 2;flower0 9 0;flower0 8 1;nights1;");
        long[] ahead = new long[5];
        for (int k = 0; k < 4; k++) {
            ahead[k] = x.digest();
            changeOne(x, k);
            Check.holds("change " + k + " changes something", x.digest() != ahead[k]);
        }
        for (int k = 3; k >= 0; k--) {
            Check.due("undo() of change " + k, x.undo(), k == 0 ? 1 : 4);
            Check.due("all as ahead of change " + k, x.digest(), ahead[k]);
        }
        for (int k = 0; k < 4; k++) {
            changeOne(x, k);
            Check.due("undo() of change " + k + " alone", x.undo(), 1);
            Check.due("all as ahead of change " + k + " alone", x.digest(), ahead[0]);
        }
    }

    private static void changeOne(EarwigPost x, int which) {
        switch (which) {
            case 0:
                x.nights(3);
                break;
            case 1:
                x.swaps(1, 5);
                break;
            case 2:
                x.wool(1, 7);
                break;
            default:
                x.sends(1, 5);
                break;
        }
    }

    private static void undoOfAllSix() {
        EarwigPost x = Given.told("sleeper0 1;sleeper0 2;sleeper0 3;sleeper0 4;sleeper0 5;sleeper0 6;");
        for (int f = 0; f < 6; f++) {
            x.flower(f, 9 - f, f);
        }
        x.nights(2);
        x.image(0);
        long before = x.digest();
        for (int i = 0; i < 6; i++) {
            int next = (i + 1) % 6;
            x.from(0);
            x.wool(i, 9);
            x.sends(i, next);
            x.swaps(i, next);
            x.nights(1);
            x.undo();
            x.undo();
            Check.due("pillow of " + i, x.of(i, 1), i);
            Check.due("flower " + i + " is sent", x.about(i, 2), next);
            x.undo();
            Check.due("flower " + i + " is not sent", x.about(i, 2), i);
            Check.due("wool of " + i, x.of(i, 2), 9);
            x.undo();
            Check.due("all as ahead of the changes of " + i, x.digest(), before);
        }
    }

    private static void eightAtMost() {
        Check.says("8 at most");
        EarwigPost x = Given.told("sleeper0 0;flower0 1 0;");
        for (int c = 1; c <= 9; c++) {
            x.wool(0, c);
            Check.due("may be undone behind " + c, x.count(8), Math.min(8, c));
        }
        for (int c = 8; c >= 1; c--) {
            Check.due("undo()", x.undo(), 0);
            Check.due("wool", x.of(0, 2), c);
        }
        Check.due("a ninth", x.undo(), -3);
        Check.due("wool as behind the first", x.of(0, 2), 1);

        x = Given.told("sleeper0 0;");
        for (int c = 1; c <= 8; c++) {
            x.wool(0, c);
        }
        x.undo();
        x.undo();
        x.undo();
        Check.due("five of eight are left", x.count(8), 5);
        for (int c = 9; c >= 6; c--) {
            x.wool(0, c);
        }
        Check.due("five and four are eight", x.count(8), 8);
        int[] back = {7, 8, 9, 5, 4, 3, 2, 1};
        for (int c : back) {
            x.undo();
            Check.due("wool of old and new ones", x.of(0, 2), c);
        }
        Check.due("a ninth of old and new ones", x.undo(), -3);
    }

    private static void behindWhoComes() {
        Check.says("behind a SLEEPER, a FLOWER that comes none may be");
        EarwigPost x = Given.full();
        Check.due("eight may be undone", x.count(8), 8);
        Check.due("a 7th sleeper doesn't come", x.sleeper(0), -4);
        Check.due("a 7th flower doesn't come", x.flower(0, 1, 0), -4);
        Check.due("eight may be undone still", x.count(8), 8);
        x = new EarwigPost();
        x.nights(1);
        x.nights(1);
        x.sleeper(0);
        Check.due("behind a sleeper", x.undo(), -3);
        Check.due("the night stays", x.count(2), 2);
        x.nights(3);
        Check.due("what comes behind him may be", x.undo(), 2);
        x.nights(3);
        x.flower(0, 1, 0);
        Check.due("behind a flower", x.undo(), -3);
        Check.due("the night stays then", x.count(2), 5);
        x.nights(4);
        Check.due("what comes behind it may be", x.undo(), 5);
        Check.due("and no more", x.undo(), -3);
    }

    private static void of() {
        Check.says("Of a SLEEPER: KIND (0), PILLOW (1), WOOL (2), MIND (3), BELIEVES tonight (4). BAD.");
        EarwigPost x = Given.told("sleeper3 0;sleeper5 4;flower0 9 1;flower4 3 1;nights1;");
        // ahead of night 1 the actress has 12 of 9 and 4 of 5; in it the tulip is 0
        int[] due = {5, 1, 4, 16, 12};
        for (int what = 0; what <= 4; what++) {
            Check.due("of(1, " + what + ")", x.of(1, what), due[what]);
        }
        Check.due("of(1, 5)", x.of(1, 5), -2);
        Check.due("of(1, -1)", x.of(1, -1), -2);
        Check.due("of(2, 0)", x.of(2, 0), -2);
        Check.due("of(-1, 0)", x.of(-1, 0), -2);

        Check.says("all that a SLEEPER BELIEVES tonight");
        Check.due("nothing is sent to him", x.of(0, 4), 0);
        x.swaps(0, 1);
        Check.due("on another pillow", x.of(0, 4), 4);
        Check.due("the actress hears nothing there", x.of(1, 4), 0);
        x.nights(1);
        Check.due("in night 2 the tulip, too", x.of(0, 4), 4 + 2);
        x = Given.inNight(999);
        x.sleeper(0);
        x.flower(2, 9, 0);
        x.flower(4, 9, 0);
        Check.due("tonight in night 999", x.of(0, 4), 18);
    }

    private static void about() {
        Check.says("Of a FLOWER: KIND (0), WORD (1), PILLOW (2), TELLS tonight (3). BAD.");
        EarwigPost x = Given.told("flower1 1 0;flower5 9 4;nights1;");
        int[] due = {5, 9, 4, 6};
        for (int what = 0; what <= 3; what++) {
            Check.due("about(1, " + what + ")", x.about(1, what), due[what]);
        }
        Check.due("about(1, 4)", x.about(1, 4), -2);
        Check.due("about(1, -1)", x.about(1, -1), -2);
        Check.due("about(2, 0)", x.about(2, 0), -2);
        Check.due("about(-1, 0)", x.about(-1, 0), -2);
        x.nights(2);
        Check.due("it tells in night 3", x.about(1, 3), 15);
    }

    public static void main(String[] args) {
        nights();
        nightsAtTheEnd();
        swaps();
        wool();
        sends();
        undo();
        undoOfAllSix();
        eightAtMost();
        behindWhoComes();
        of();
        about();
        Check.end();
    }
}

/** The edges that the document names of THE TEXT, its ITEMS, TOKENS and FAULTS, and in promises 5 to 7. */
final class TextEdgesTest {
    private static final String SIX_SLEEPERS = "sleeper0 0;sleeper0 0;sleeper0 0;sleeper0 0;sleeper0 0;sleeper0 0;";
    private static final String SIX_FLOWERS = "flower0 1 0;flower0 1 0;flower0 1 0;flower0 1 0;flower0 1 0;flower0 1 0;";

    /** The object that read the last text; each text has one of its own, as an object is promised for 512 calls. */
    private static EarwigPost post;

    private static void dueItems(String text, int items) {
        post = new EarwigPost();
        Check.due("read() of '" + text + "'", Check.readText(post, text), items);
    }

    /** The fault is told as a place, so that it can be counted in the text. */
    private static void dueFault(String text, int place) {
        dueItems(text, -10 - place);
    }

    private static String blanks(int many) {
        return " ".repeat(many);
    }

    private static void type() {
        Check.says("A byte (0 .. 127) comes behind THE TEXT: how many it has. BAD; FULL.");
        EarwigPost x = new EarwigPost();
        Check.due("type(-1)", x.type(-1), -2);
        Check.due("type(128)", x.type(128), -2);
        Check.due("nothing came", x.count(9), 0);
        Check.due("type(0)", x.type(0), 1);
        Check.due("type(127)", x.type(127), 2);
        for (int k = 3; k <= 149; k++) {
            x.type(32);
        }
        Check.due("the 150th", x.type(32), 150);
        Check.due("a 151st", x.type(32), -4);
        Check.due("a 151st that is no byte", x.type(128), -2);
        Check.due("there are 150", x.count(9), 150);

        Check.says("THE TEXT is empty: how many it had.");
        Check.due("clear()", x.clear(), 150);
        Check.due("clear() of an empty one", x.clear(), 0);
        Check.due("nothing is left of it", x.read(), -10);
        Check.due("the first again", x.type('o'), 1);
        Check.due("nothing behind it", x.read(), -10);
        Check.due("clear() of an empty one, new object", new EarwigPost().clear(), 0);
    }

    private static void length() {
        Check.says("THE OFFICE is told by a TEXT (150 bytes at most) of ITEMS, each ended by ;");
        dueItems(blanks(143) + "office;", 1);
        dueItems("office;" + blanks(134) + "nights 42;", -10 - 150);
        Check.due("the 151st byte did not come", post.count(9), 150);
        Check.due("it was refused", post.status(2), 1);
        dueItems("office;" + blanks(133) + "nights 42;", 2);
        Check.due("night", post.count(2), 42);
        Check.due("a byte more is refused", post.type(32), -4);
        Check.due("it can be read still", post.read(), 2);
        dueFault("office;" + blanks(133) + "nights 042", 147);
        dueFault("office;" + blanks(142) + "x", 149);
        dueFault("office;nights 1", 15);
        dueFault("office", 6);

        Check.says("how many ITEMS (office is one, too)");
        dueItems("office;", 1);
        dueItems("office;nights 1;", 2);
        dueItems("office;" + SIX_SLEEPERS + SIX_FLOWERS, 13);
        Check.due("six sleepers", post.count(0), 6);
        Check.due("six flowers", post.count(1), 6);
        StringBuilder most = new StringBuilder("office;");
        for (int k = 0; k < 17; k++) {
            most.append("nights1;");
        }
        dueItems(most.toString(), 18);
        Check.due("all seventeen went by", post.count(2), 17);
    }

    private static void office() {
        Check.says("office (once, first of all)");
        dueItems("office;", 1);
        dueFault("office;office;", 7);
        dueFault("office;nights 1;office;", 16);
        dueFault("office office;", 7);
        dueFault("nights 1;office;", 0);
        dueFault("sleeper0 0;", 0);
    }

    private static void sleeper() {
        Check.says("sleeper KIND WOOL;");
        dueItems("office;sleeper 5 9;sleeper 0 0;", 3);
        Check.due("kind of the first", post.of(0, 0), 5);
        Check.due("wool of the first", post.of(0, 2), 9);
        dueFault("office;sleeper 6 0;", 15);
        dueFault("office;sleeper 0 10;", 17);
        dueFault("office;sleeper 0;", 16);
        dueFault("office;sleeper;", 14);
        dueFault("office;sleeper 0 0 0;", 19);
    }

    private static void flower() {
        Check.says("flower KIND WORD PILLOW (all numbers, as told)");
        dueItems("office;flower 5 9 5;flower 0 1 0;", 3);
        Check.due("kind of the first", post.about(0, 0), 5);
        Check.due("word of the first", post.about(0, 1), 9);
        Check.due("pillow of the first", post.about(0, 2), 5);
        dueFault("office;flower 6 1 0;", 14);
        dueFault("office;flower 0 0 0;", 16);
        dueFault("office;flower 0 10 0;", 16);
        dueFault("office;flower 0 1 6;", 18);
        dueFault("office;flower 0 1;", 17);
        dueFault("office;flower 0 1 0 0;", 20);
    }

    private static void swap() {
        Check.says("swap a b (two PILLOWS: who lies there, or nobody, changes; unlike)");
        dueItems("office;swap 0 5;", 2);
        dueItems("office;sleeper 1 0;swap 0 5;swap 1 2;", 4);
        Check.due("one moved", post.of(0, 1), 5);
        dueItems("office;sleeper 1 0;swap 5 0;", 3);
        Check.due("one moved, told the other way", post.of(0, 1), 5);
        dueItems("office;sleeper 1 0;sleeper 2 0;swap 0 1;", 4);
        Check.due("two changed: 0", post.of(0, 1), 1);
        Check.due("two changed: 1", post.of(1, 1), 0);
        Check.due("nothing to undo", post.count(8), 0);
        dueFault("office;swap 6 0;", 12);
        dueFault("office;swap 0 6;", 14);
        dueFault("office;swap 0;", 13);
        dueFault("office;swap 0 1 2;", 16);
    }

    private static void nights() {
        Check.says("nights n (1 .. 99: so many go by, where it stands)");
        dueFault("office;nights 0;", 14);
        dueFault("office;nights 00;", 14);
        dueItems("office;nights 1;", 2);
        Check.due("one", post.count(2), 1);
        dueItems("office;nights 99;", 2);
        Check.due("99", post.count(2), 99);
        dueFault("office;nights 100;", 14);
        dueFault("office;nights;", 13);
        dueItems("office;nights 5;sleeper 0 0;nights 2;flower 0 1 0;nights 4;sleeper 0 0;swap 0 1;nights 8;", 9);
        Check.due("only four with flower and sleeper", post.of(0, 3), 4);
        Check.due("eight behind the swap", post.of(1, 3), 8);
        Check.due("in all", post.count(2), 19);

        Check.says("NIGHTS have numbers, 0 at first (999 at most)");
        String toTheEnd = "office;nights99;nights99;nights99;nights99;nights99;nights99;nights99;nights99;nights99;nights99;";
        dueItems(toTheEnd + "nights8;sleeper0 0;flower0 1 0;nights9;", 15);
        Check.due("999 is the last", post.count(2), 999);
        Check.due("one of nine went by", post.of(0, 3), 1);
    }

    private static void tokens() {
        Check.says("words of letters a .. z (a KIND is told as its number)");
        dueFault("office;sleeper plain 0;", 15);
        dueFault("office;flower dahlia 1 0;", 14);
        dueFault("office;az;", 7);
        dueFault("office`;", 6);
        dueFault("office{;", 6);
        dueFault("officeA;", 6);
        dueFault("OFFICE;", 0);

        Check.says("figures (1 or 2 are one number)");
        dueItems("office;nights 9;", 2);
        dueItems("office;nights 09;", 2);
        Check.due("09 is nine", post.count(2), 9);
        dueItems("office;sleeper 05 00;flower 00 01 05;", 3);
        dueFault("office;sleeper 59;", 15);
        dueFault("office;nights 1/;", 15);
        dueFault("office;nights 1:;", 15);
        dueFault("office;nights /1;", 14);
        dueFault("office;nights :1;", 14);
        dueFault("office;nights 5 5;", 16);

        Check.says("blanks (32), any number, ahead of, between and behind TOKENS (needed only between two words, two numbers)");
        dueItems(" office;", 1);
        dueItems("   office   ;   nights   7   ;   ", 2);
        Check.due("seven", post.count(2), 7);
        dueItems("office;sleeper0 0;flower0 1 0;swap0 1;nights7;", 5);
        dueFault("officenights 7;", 0);
        dueFault("office;swap 01;", 14);
        dueFault("office;sleeper 5 9sleeper 0 0;", 18);
        dueFault("office;sleeper 5 9 sleeper 0 0;", 19);
        dueFault("off ice;", 0);
        dueFault("office;nights\t7;", 13);
        dueFault("office;\nnights 7;", 7);
        dueFault("office;nights 7;" + (char) 31, 16);
        dueFault("office;nights 7;" + (char) 33, 16);
        dueFault("office;nights 7 ;;", 17);
    }

    private static void wrongWords() {
        Check.says("a word that is none");
        dueFault("offic;", 0);
        dueFault("offices;", 0);
        dueFault("offic", 0);
        dueFault("effice;", 0);
        dueFault("officf;", 0);
        dueFault("office;tleeper 0 0;", 7);
        dueFault("office;glower 0 1 0;", 7);
        dueFault("office;zwap 0 1;", 7);
        dueFault("office;mights 1;", 7);
        dueFault("office;sleepers 0 0;", 7);
        dueFault("office;sleepe 0 0;", 7);
        dueFault("office;flowers 0 1 0;", 7);
        dueFault("office;flowe 0 1 0;", 7);
        dueFault("office;swaps 0 1;", 7);
        dueFault("office;swa 0 1;", 7);
        dueFault("office;night 1;", 7);
        dueFault("office;nightss 1;", 7);
        dueFault("office;undo;", 7);
        dueFault("office;nights seven;", 14);
        dueFault("office x;", 7);

        Check.says("office again");
        dueFault("office;office;", 7);
        dueFault("office;nights office;", 14);

        Check.says("anything ahead of it");
        dueFault("  nights 1;office;", 2);
        dueFault(" ;office;", 1);
        dueFault("7 office;", 0);
        dueFault("123office;", 0);
        dueFault("  #office;", 2);
    }

    private static void sevenths() {
        Check.says("a 7th sleeper, a 7th flower at its word");
        dueItems("office;" + SIX_SLEEPERS, 7);
        dueFault("office;" + SIX_SLEEPERS + "sleeper0 0;", 73);
        dueFault("office;" + SIX_SLEEPERS + "sleeper", 73);
        dueFault("office;" + SIX_SLEEPERS + "  sleeper 9 99;", 75);
        dueItems("office;" + SIX_FLOWERS, 7);
        dueFault("office;" + SIX_FLOWERS + "flower0 1 0;", 79);
        dueFault("office;" + SIX_FLOWERS + "flower", 79);
        dueFault("office;" + SIX_FLOWERS + " flower 9 99 9;", 80);
        dueItems("office;" + SIX_FLOWERS + SIX_SLEEPERS + "     ", 13);
        dueFault("office;" + SIX_SLEEPERS + "flower0 1 0;sleeper 0 0;", 85);
        dueFault("office;sleeper0 0;" + SIX_FLOWERS + "flower 0 1 0;", 90);
    }

    private static void wrongNumbers() {
        Check.says("a run of three figures or more (at its first one)");
        dueFault("office;nights 100;", 14);
        dueFault("office;nights 001;", 14);
        dueFault("office;nights 0001;", 14);
        dueFault("office;nights 4294967297;", 14);
        dueFault("office;sleeper000 0;", 14);
        dueFault("office;flower 0 1 000;", 18);
        dueFault("office 123", 7);
        dueFault("office;nights 1 000", 16);
        dueFault("office;nights 123", 14);
        dueFault("office;nights " + "1".repeat(136), 14);

        Check.says("a number not as told, also an alike PILLOW");
        dueFault("office;sleeper 6 0;", 15);
        dueFault("office;nights 0;", 14);
        dueFault("office;swap 3 3;", 14);
        dueFault("office;swap 3 3", 14);
        dueFault("office;swap 3 03;", 14);
        dueFault("office;swap 03 3;", 15);
        dueFault("office;swap 0 0;", 14);
        dueFault("office;swap 5 5;", 14);
        dueFault("office;swap 6 6;", 12);

        Check.says("a byte that begins none, too");
        dueFault("#", 0);
        dueFault("office;#", 7);
        dueFault("office#", 6);
        dueFault("office;nights#1;", 13);
        dueFault("office;nights -1;", 14);
        dueFault("office;nights 1.", 15);
        dueFault("office;" + (char) 0, 7);
        dueFault("office; " + (char) 127, 8);
        dueFault("Xoffice;", 0);
    }

    private static void firstOfAll() {
        Check.says("the place of the first byte of the first TOKEN that can not stand there");
        dueFault("office;nights 0;sleeper 9 9;", 14);
        dueFault("office;sleeper 0 99;#", 17);
        dueFault("office nights 0;", 7);
        dueFault("office;sleeper ;0 0;", 15);
        dueFault("office;sleeper 0 ;0;", 17);
        dueFault("office;1;", 7);
        dueFault("office;;", 7);
        dueFault(";", 0);
    }

    private static void endsTooEarly() {
        Check.says("the TEXT's length, if it ends too early (an empty one, too)");
        dueFault("", 0);
        dueFault(" ", 1);
        dueFault(blanks(150), 150);
        String[] early = {"office", "office ", "office;sleeper", "office;sleeper 0", "office;sleeper 0 0", "office;flower",
            "office;flower 0", "office;flower 0 1", "office;flower 0 1 0", "office;flower 0 1 0  ", "office;swap",
            "office;swap 0", "office;swap 0 1", "office;nights", "office;nights 9", "office;nights 9 ",
            "office;nights 9;sleeper", "office;" + SIX_FLOWERS + SIX_SLEEPERS + "swap"};
        for (String text : early) {
            dueFault(text, text.length());
        }
        EarwigPost x = new EarwigPost();
        Check.due("an empty one of a new object", x.read(), -10);
        Check.due("that is not refused", x.status(0) + x.status(1) + x.status(2), 0);
    }

    private static void allStays() {
        Check.says("-10 less the FAULT: all stays.");
        EarwigPost x = Given.full();
        x.clear();
        Check.typeAll(x, "office;" + SIX_SLEEPERS + SIX_FLOWERS + "swap");
        long before = x.digest();
        Check.due("read()", x.read(), -10 - 149);
        Check.due("nothing is changed", x.digest(), before);
        Check.due("it can be read again", x.read(), -10 - 149);
        for (int k = 8; k > 0; k--) {
            Check.due("so many may be undone", x.count(8), k);
            x.undo();
        }
        Check.due("from(1)", x.from(1), -3);
        Check.due("from(0)", x.from(0), 1);
    }

    private static void takesThePlace() {
        Check.says("An OFFICE that is read takes the place of all but IMAGES, THE TEXT, THE FRACTION, STATUS "
            + "(ROSE told, NOTES, MARKS none; nothing to undo).");
        EarwigPost x = Given.full();
        x.sleeper(0);
        x.sleeper(6);
        x.undo();
        x.image(1);
        long kept = x.digest();
        long above = x.part(0);
        Check.typeAll(x, "office;sleeper4 2;swap0 3;nights3;flower5 6 3;");
        Check.due("read()", x.read(), 5);
        int[] due = {1, 1, 3, 0, 0, 0, 0, 0, 0, 46};
        for (int what = 0; what <= 9; what++) {
            Check.due("count(" + what + ")", x.count(what), due[what]);
        }
        Check.due("the pillow", x.of(0, 1), 3);
        Check.due("nothing to undo", x.undo(), -3);
        Check.due("the fraction, above", x.part(0), above);
        Check.due("status(0)", x.status(0), 1);
        Check.due("status(1)", x.status(1), 1);
        Check.due("status(2)", x.status(2), 1);
        Check.due("the text is there still", x.read(), 5);
        Check.due("image 1 goes on", x.from(1), 1);
        Check.typeAll(x, "a".repeat(150));
        Check.due("all but the text as it was", x.digest(), kept);
        Check.due("image 0 goes on", x.from(0), 1);
    }

    public static void main(String[] args) {
        type();
        length();
        office();
        sleeper();
        flower();
        swap();
        nights();
        tokens();
        wrongWords();
        sevenths();
        wrongNumbers();
        firstOfAll();
        endsTooEarly();
        allStays();
        takesThePlace();
        Check.end();
    }
}

/** Promises 1 to 7: a new object, and how an office comes to be, by calls and by a text. */
final class OfficeTest {
    private static void aNewObject() {
        Check.part("promise 1");
        EarwigPost x = new EarwigPost();
        for (int what = 0; what <= 9; what++) {
            Check.due("count(" + what + ")", x.count(what), 0);
        }
        Check.due("part(0)", x.part(0), 0);
        Check.due("part(1)", x.part(1), 1);
        Check.due("status(0)", x.status(0), 0);
        Check.due("status(1)", x.status(1), 0);
        Check.due("status(2)", x.status(2), 0);
        Check.due("undo()", x.undo(), -3);
        Check.due("from(0)", x.from(0), -3);
        Check.due("from(1)", x.from(1), -3);
        Check.due("read()", x.read(), -10);
        Check.due("digest()", x.digest(), Check.mixed(0, 0, 0, 0, 0, 0, 0, 0, 0, 0, 0, 1));
        EarwigPost other = new EarwigPost();
        x.sleeper(0);
        Check.due("count(0) of another", other.count(0), 0);
        Check.due("NONE", EarwigPost.NONE, -1);
        Check.due("BAD", EarwigPost.BAD, -2);
        Check.due("NO", EarwigPost.NO, -3);
        Check.due("FULL", EarwigPost.FULL, -4);
    }

    private static void office() {
        Check.part("promise 2");
        EarwigPost x = new EarwigPost();
        Check.due("office() with nobody", x.office(), 0);
        x.sleeper(0);
        x.sleeper(2);
        x.flower(0, 5, 0);
        x.slips(0, 5);
        x.rose(0, 0, 5);
        x.note(0, 1, 1, 1);
        x.mark(0, 1, 1, 1);
        x.nights(3);
        x.type('o');
        x.image(1);
        x.sleeper(9);
        Check.due("office()", x.office(), 2);
        for (int what = 0; what <= 8; what++) {
            Check.due("count(" + what + ") behind office", x.count(what), 0);
        }
        Check.due("undo() behind office", x.undo(), -3);
        Check.due("the text stays", x.count(9), 1);
        Check.due("the fraction stays, above", x.part(0), 5);
        Check.due("the fraction stays, below", x.part(1), 2);
        Check.due("status stays", x.status(0), 1);
        Check.due("the image stays", x.from(1), 1);
        Check.due("nights of the image", x.count(2), 3);
        Check.due("office() again", x.office(), 2);
        Check.due("office() again, empty", x.office(), 0);
        Check.due("a sleeper comes anew", x.sleeper(3), 0);
        Check.due("with no mind", x.of(0, 3), 0);
    }

    private static void sleeper() {
        Check.part("promise 3");
        EarwigPost x = new EarwigPost();
        Check.due("sleeper(-1)", x.sleeper(-1), -2);
        Check.due("sleeper(6)", x.sleeper(6), -2);
        for (int i = 0; i < 3; i++) {
            Check.due("sleeper(" + i + ")", x.sleeper(i), i);
            Check.due("kind", x.of(i, 0), i);
            Check.due("pillow", x.of(i, 1), i);
            Check.due("wool", x.of(i, 2), 0);
            Check.due("mind", x.of(i, 3), 0);
        }
        x.swaps(1, 5);
        Check.due("may be undone", x.count(8), 1);
        Check.due("a fourth", x.sleeper(5), 3);
        Check.due("on the first free pillow", x.of(3, 1), 1);
        Check.due("behind him none may be undone", x.undo(), -3);
        Check.due("a fifth", x.sleeper(4), 4);
        Check.due("a fifth's pillow", x.of(4, 1), 3);
        Check.due("a sixth", x.sleeper(0), 5);
        Check.due("a sixth's pillow", x.of(5, 1), 4);
        Check.due("a seventh", x.sleeper(0), -4);
        Check.due("a seventh of no kind", x.sleeper(6), -2);
        x.swaps(0, 1);
        Check.due("refused", x.sleeper(0), -4);
        Check.due("one refused leaves what may be undone", x.count(8), 1);
        Check.due("bad ones", x.status(0), 3);
        Check.due("full ones", x.status(2), 2);
    }

    private static void flower() {
        Check.part("promise 4");
        EarwigPost x = new EarwigPost();
        int[][] bad = {{-1, 1, 0}, {6, 1, 0}, {0, 0, 0}, {0, 10, 0}, {0, 1, -1}, {0, 1, 6}};
        for (int[] b : bad) {
            Check.due("flower(" + b[0] + ", " + b[1] + ", " + b[2] + ")", x.flower(b[0], b[1], b[2]), -2);
        }
        x.sleeper(0);
        for (int f = 0; f < 6; f++) {
            x.nights(1);
            Check.due("a flower", x.flower(f, f == 0 ? 9 : f, 5 - f), f);
            Check.due("kind", x.about(f, 0), f);
            Check.due("word", x.about(f, 1), f == 0 ? 9 : f);
            Check.due("pillow", x.about(f, 2), 5 - f);
            Check.due("behind it none may be undone", x.count(8), 0);
        }
        x.nights(1);
        Check.due("a seventh", x.flower(0, 1, 0), -4);
        Check.due("a seventh with no word", x.flower(0, 0, 0), -2);
        Check.due("one refused leaves what may be undone", x.count(8), 1);
        Check.due("flowers", x.count(1), 6);
    }

    private static void typeAndClear() {
        Check.part("promises 5 and 6");
        EarwigPost x = new EarwigPost();
        Check.due("type(-1)", x.type(-1), -2);
        Check.due("type(128)", x.type(128), -2);
        Check.due("clear() of none", x.clear(), 0);
        for (int k = 1; k <= 150; k++) {
            Check.due("type", x.type(k % 128), k);
        }
        Check.due("one too many", x.type(65), -4);
        Check.due("a bad one too many", x.type(128), -2);
        Check.due("count(9)", x.count(9), 150);
        Check.due("clear()", x.clear(), 150);
        Check.due("count(9) behind it", x.count(9), 0);
        Check.due("clear() again", x.clear(), 0);
        Check.due("type(0)", x.type(0), 1);
        Check.due("type(127)", x.type(127), 2);
        Check.due("full ones", x.status(2), 1);
        Check.due("bad ones", x.status(0), 3);
    }

    private static void due(EarwigPost x, String text, int want) {
        Check.due("read() of '" + text + "'", Check.readText(x, text), want);
    }

    /** Each text is read by an object of its own, in which all stays, if there is a fault. */
    private static EarwigPost due(String text, int want) {
        EarwigPost x = new EarwigPost();
        x.sleeper(4);
        x.nights(1);
        due(x, text, want);
        if (want < 0) {
            Check.due("all stays: sleepers", x.count(0), 1);
            Check.due("all stays: nights", x.count(2), 1);
            Check.due("all stays: kind", x.of(0, 0), 4);
            Check.due("all stays: undo", x.count(8), 1);
            Check.due("a fault is no refusal", x.status(0) + x.status(1) + x.status(2), 0);
        }
        return x;
    }

    private static void readItems() {
        Check.part("promise 7, items");
        EarwigPost x;
        x = due("office;", 1);
        x = due("  office  ;  ", 1);
        Check.due("nobody", x.count(0), 0);
        x = due("office;sleeper5 9;flower0 09 05;nights1;", 4);
        Check.due("kind", x.of(0, 0), 5);
        Check.due("wool", x.of(0, 2), 9);
        Check.due("word", x.about(0, 1), 9);
        Check.due("pillow", x.about(0, 2), 5);
        Check.due("night", x.count(2), 1);
        x = due("office;flower 0 4 0;sleeper 0 1;nights 2;swap 0 3;nights 5;swap 3 0;swap 1 2;sleeper 1 0;nights 10;", 10);
        Check.due("mind", x.of(0, 3), 3 * 2 + 3 * 10);
        Check.due("mind of one that came later", x.of(1, 3), 0);
        Check.due("pillow of one that came later", x.of(1, 1), 1);
        Check.due("nights", x.count(2), 17);
        x = due("office;flower 5 1 0;flower 4 2 1;flower 3 3 2;", 4);
        for (int f = 0; f < 3; f++) {
            Check.due("kind of a flower", x.about(f, 0), 5 - f);
            Check.due("word of a flower", x.about(f, 1), f + 1);
            Check.due("pillow of a flower", x.about(f, 2), f);
        }
        x = due("office;sleeper 2 0;swap 5 0;swap 5 0;swap 1 0;", 5);
        Check.due("moved and moved again", x.of(0, 1), 1);
        x = due("office;sleeper 0 0;swap 0 5;sleeper 1 0;", 4);
        Check.due("the first was moved", x.of(0, 1), 5);
        Check.due("the second lies where he lay", x.of(1, 1), 0);
        x = due("office;nights99;nights99;nights99;nights99;nights99;nights99;nights99;nights99;nights99;"
            + "nights99;nights 9;sleeper0 0;flower0 9 0;nights2;", 15);
        Check.due("no night behind the 999th", x.count(2), 999);
        Check.due("999 were reached with him", x.of(0, 3), 0);
        x = due("office;nights99;nights99;nights99;nights99;nights99;nights99;nights99;nights99;nights99;"
            + "nights99;sleeper0 0;flower0 3 0;nights 50;", 14);
        Check.due("999 again", x.count(2), 999);
        Check.due("nine nights with him", x.of(0, 3), 27);
    }

    private static void readTakesThePlace() {
        Check.part("promise 7, the office that is read");
        EarwigPost x = new EarwigPost();
        x.sleeper(0);
        x.sleeper(1);
        x.flower(0, 7, 0);
        x.slips(0, 3);
        x.rose(0, 0, 7);
        x.note(0, 7, 0, 7);
        x.mark(0, 7, 0, 7);
        x.nights(2);
        x.image(0);
        x.sleeper(7);
        due(x, "office;sleeper 3 2;nights 4;swap 0 1;", 4);
        int[] due = {1, 0, 4, 0, 0, 0, 0, 0, 0, 37};
        for (int what = 0; what <= 9; what++) {
            Check.due("count(" + what + ")", x.count(what), due[what]);
        }
        Check.due("nothing to undo", x.undo(), -3);
        Check.due("the fraction stays, above", x.part(0), 49);
        Check.due("the fraction stays, below", x.part(1), 10);
        Check.due("status stays", x.status(0), 1);
        Check.due("the image stays", x.from(0), 1);
        Check.due("with its roses", x.count(5), 1);
        Check.due("the text stays with an image, too", x.count(9), 37);
        Check.due("read again", x.read(), 4);
    }

    private static void faults() {
        Check.part("promise 7, faults");
        due("", -10);
        due("   ", -13);
        due("office", -16);
        due("office  ", -18);
        due("offic", -10);
        due("offices;", -10);
        due("Office;", -10);
        due("oFfice;", -10);
        due("xffice;", -10);
        due("offico;", -10);
        due("office;oleeper 0 0;", -17);
        due("office;clower 0 1 0;", -17);
        due("office;xwap 0 1;", -17);
        due("office;mights 1;", -17);
        due(" sleeper 0 0;", -11);
        due(";office;", -10);
        due("1 office;", -10);
        due("office;;", -17);
        due("office 1;", -17);
        due("office;office;", -17);
        due("office; nobody;", -18);
        due("office;1", -17);
        due("office;sleeper", -24);
        due("office;sleeper;", -24);
        due("office;sleeper 6 0;", -25);
        due("office;sleeper 5 10;", -27);
        due("office;sleeper 5 9", -28);
        due("office;sleeper 5 9 ", -29);
        due("office;sleeper 5 9 0;", -29);
        due("office;sleeper 5 9 sleeper", -29);
        due("office;sleeper 59;", -25);
        due("office;sleeper 000 0;", -25);
        due("office;sleeper 0 005;", -27);
        due("office;sleeper -1 0;", -25);
        due("office;sleeper x 0;", -25);
        due("office;sleeper 0\t0;", -26);
        due("office;flower 6 1 0;", -24);
        due("office;flower 0 0 0;", -26);
        due("office;flower 0 10 0;", -26);
        due("office;flower 0 1 6;", -28);
        due("office;flower 0 1;", -27);
        due("office;swap 6 0;", -22);
        due("office;swap 0 6;", -24);
        due("office;swap 3 3;", -24);
        due("office;swap 3 03;", -24);
        due("office;nights 0;", -24);
        due("office;nights 00;", -24);
        due("office;nights 100;", -24);
        due("office;nights 1 1;", -26);
        due("office;nights1", -24);
        due("office;nights 1;night", -26);
        due("office;nights 1;#", -26);
        due("office;nights 1; " + (char) 127, -27);
        due("office;nights 1; " + (char) 0, -27);
        due("office 123", -17);
        due("office;sleeper0 0;sleeper0 0;sleeper0 0;sleeper0 0;sleeper0 0;sleeper0 0;sleeper", -83);
        due("office;flower0 1 0;flower0 1 0;flower0 1 0;flower0 1 0;flower0 1 0;flower0 1 0;flower", -89);
        due("office;sleeper0 0;sleeper0 0;sleeper0 0;sleeper0 0;sleeper0 0;sleeper0 0;", 7);
        due("office;flower0 1 0;flower0 1 0;flower0 1 0;flower0 1 0;flower0 1 0;flower0 1 0;", 7);
        StringBuilder many = new StringBuilder("office;");
        for (int k = 0; k < 17; k++) {
            many.append("swap0 1;");
        }
        due(many + " ", 18);
        due(many + "swap01;", -10 - 149);
    }

    public static void main(String[] args) {
        aNewObject();
        office();
        sleeper();
        flower();
        typeAndClear();
        readItems();
        readTakesThePlace();
        faults();
        Check.end();
    }
}

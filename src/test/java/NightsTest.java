/** Promises 8 to 14: nights that go by, what is changed and undone, what one asks of sleepers and flowers. */
final class NightsTest {
    private static void nights() {
        Check.part("promise 8");
        EarwigPost x = new EarwigPost();
        Check.due("nights(0)", x.nights(0), -2);
        Check.due("nights(61)", x.nights(61), -2);
        Check.due("nights(-1)", x.nights(-1), -2);
        Check.due("refused ones are not undone", x.count(8), 0);
        Check.due("nights(60) of nobody", x.nights(60), 0);
        Check.due("count(2)", x.count(2), 60);
        x.office();
        x.sleeper(0);
        x.sleeper(2);
        x.flower(0, 5, 0);
        x.flower(0, 2, 0);
        x.flower(1, 1, 3);
        x.wool(0, 3);
        Check.due("nights(9)", x.nights(9), 0);
        Check.due("each flower is believed apart", x.of(0, 3), 2 * 9);
        Check.due("nothing comes to him", x.of(1, 3), 0);
        Check.due("nights(1)", x.nights(1), 1);
        Check.due("he does it at 20", x.of(0, 3), 20);
        x.sends(2, 1);
        Check.due("nights(5): a politician has 4 a night", x.nights(5), 2);
        Check.due("mind", x.of(1, 3), 20);
        Check.due("together one that may be undone", x.count(8), 5);
        x.undo();
        Check.due("undone together", x.of(1, 3), 0);
        Check.due("the night, too", x.count(2), 10);
    }

    private static void lastNight() {
        Check.part("promise 8, night 999");
        EarwigPost x = new EarwigPost();
        x.sleeper(5);
        x.flower(0, 9, 0);
        for (int k = 0; k < 16; k++) {
            x.nights(60);
        }
        Check.due("mind is 999 at most", x.of(0, 3), 999);
        Check.due("night 960", x.count(2), 960);
        Check.due("nights(38)", x.nights(38), 1);
        Check.due("night 998", x.count(2), 998);
        Check.due("nights(2)", x.nights(2), 1);
        Check.due("night 999", x.count(2), 999);
        Check.due("undo() brings 998", x.undo(), 998);
        x.nights(60);
        x.office();
        for (int k = 0; k < 17; k++) {
            x.nights(60);
        }
        x.sleeper(0);
        x.flower(0, 9, 0);
        Check.due("nothing may be undone", x.count(8), 0);
        Check.due("none goes by", x.nights(60), 0);
        Check.due("none has more in mind", x.of(0, 3), 0);
        Check.due("but it may be undone", x.count(8), 1);
        Check.due("undo()", x.undo(), 999);
    }

    private static void swaps() {
        Check.part("promise 9");
        EarwigPost x = new EarwigPost();
        int[][] bad = {{0, 0}, {6, 0}, {0, 6}, {-1, 0}, {0, -1}};
        for (int[] b : bad) {
            Check.due("swaps(" + b[0] + ", " + b[1] + ")", x.swaps(b[0], b[1]), -2);
        }
        Check.due("nobody lies there", x.swaps(0, 1), -3);
        x.sleeper(0);
        x.sleeper(1);
        Check.due("nobody lies on 2, 3", x.swaps(2, 3), -3);
        Check.due("two change", x.swaps(0, 1), 2);
        Check.due("pillow of 0", x.of(0, 1), 1);
        Check.due("pillow of 1", x.of(1, 1), 0);
        Check.due("one moves", x.swaps(5, 0), 1);
        Check.due("pillow of 1 then", x.of(1, 1), 5);
        Check.due("the other moves", x.swaps(1, 0), 1);
        Check.due("pillow of 0 then", x.of(0, 1), 0);
        Check.due("three may be undone", x.count(8), 3);
        Check.due("status(1)", x.status(1), 2);
        x.undo();
        Check.due("undone", x.of(0, 1), 1);
        x.undo();
        x.undo();
        Check.due("all undone, 0", x.of(0, 1), 0);
        Check.due("all undone, 1", x.of(1, 1), 1);
    }

    private static void wool() {
        Check.part("promise 10");
        EarwigPost x = new EarwigPost();
        Check.due("of nobody", x.wool(0, 1), -2);
        x.sleeper(0);
        int[][] bad = {{-1, 1}, {1, 1}, {0, -1}, {0, 10}};
        for (int[] b : bad) {
            Check.due("wool(" + b[0] + ", " + b[1] + ")", x.wool(b[0], b[1]), -2);
        }
        Check.due("it is so", x.wool(0, 0), -3);
        Check.due("wool(0, 9)", x.wool(0, 9), 0);
        Check.due("wool(0, 4)", x.wool(0, 4), 9);
        Check.due("it is so at 4", x.wool(0, 4), -3);
        Check.due("of(0, 2)", x.of(0, 2), 4);
        Check.due("two may be undone", x.count(8), 2);
        x.undo();
        Check.due("undone", x.of(0, 2), 9);
        x.undo();
        Check.due("undone again", x.of(0, 2), 0);
    }

    private static void sends() {
        Check.part("promise 11");
        EarwigPost x = new EarwigPost();
        Check.due("no flower", x.sends(0, 1), -2);
        x.flower(0, 1, 5);
        int[][] bad = {{-1, 1}, {1, 1}, {0, -1}, {0, 6}};
        for (int[] b : bad) {
            Check.due("sends(" + b[0] + ", " + b[1] + ")", x.sends(b[0], b[1]), -2);
        }
        Check.due("it is so", x.sends(0, 5), -3);
        Check.due("sends(0, 0)", x.sends(0, 0), 5);
        Check.due("sends(0, 2)", x.sends(0, 2), 0);
        Check.due("about(0, 2)", x.about(0, 2), 2);
        Check.due("two may be undone", x.count(8), 2);
        x.undo();
        Check.due("undone", x.about(0, 2), 0);
        x.undo();
        Check.due("undone again", x.about(0, 2), 5);
    }

    private static void undo() {
        Check.part("promise 12");
        EarwigPost x = new EarwigPost();
        Check.due("undo() at first", x.undo(), -3);
        Check.due("status(1)", x.status(1), 1);
        x.sleeper(0);
        x.sleeper(1);
        x.flower(0, 4, 0);
        x.flower(0, 3, 1);
        long before = x.digest();
        x.nights(2);
        x.swaps(1, 2);
        x.wool(0, 1);
        x.sends(0, 3);
        x.nights(7);
        Check.due("five", x.count(8), 5);
        Check.due("undo() of nights", x.undo(), 2);
        Check.due("undo() of sends", x.undo(), 2);
        Check.due("sent to", x.about(0, 2), 0);
        Check.due("undo() of wool", x.undo(), 2);
        Check.due("undo() of swaps", x.undo(), 2);
        Check.due("undo() of the first nights", x.undo(), 0);
        Check.due("undo() once too often", x.undo(), -3);
        Check.due("all is as before", x.digest(), before);
        for (int k = 1; k <= 11; k++) {
            x.nights(k);
        }
        Check.due("eight at most", x.count(8), 8);
        int[] nights = {55, 45, 36, 28, 21, 15, 10, 6};
        for (int night : nights) {
            Check.due("the latest eight", x.undo(), night);
        }
        Check.due("no ninth", x.undo(), -3);
        Check.due("mind as ahead of them", x.of(0, 3), 24);
        Check.due("six nights stay", x.count(2), 6);
        x.nights(1);
        x.rose(0, 1, 1);
        x.note(0, 1, 1, 1);
        x.mark(0, 1, 1, 1);
        x.undo();
        Check.due("roses are not undone", x.count(5), 1);
        Check.due("notes are not undone", x.count(6), 1);
        Check.due("marks are not undone", x.count(7), 1);
    }

    private static void undoOfSix() {
        EarwigPost x = new EarwigPost();
        for (int i = 0; i < 6; i++) {
            x.sleeper(0);
            x.flower(0, 9 - i, i);
        }
        for (int i = 0; i < 6; i++) {
            x.wool(i, 6 - i);
        }
        x.nights(2);
        x.swaps(0, 5);
        x.sends(5, 3);
        x.sends(0, 5);
        long before = x.digest();
        x.nights(3);
        for (int i = 0; i < 6; i++) {
            x.wool(i, 9);
        }
        Check.due("undo() of the last wool", x.undo(), 5);
        for (int i = 0; i < 5; i++) {
            x.undo();
        }
        Check.due("the nights of six undone", x.undo(), 2);
        int[] lies = {5, 1, 2, 3, 4, 0};
        int[] sentTo = {5, 1, 2, 3, 4, 3};
        for (int i = 0; i < 6; i++) {
            Check.due("wool of " + i, x.of(i, 2), 6 - i);
            Check.due("mind of " + i, x.of(i, 3), 6);
            Check.due("pillow of " + i, x.of(i, 1), lies[i]);
            Check.due("where is sent " + i, x.about(i, 2), sentTo[i]);
        }
        Check.holds("one is left to undo, as eight were kept", x.count(8) == 1 && x.digest() != before);
        Check.due("undo() of sends", x.undo(), 2);
        Check.due("where 0 is sent", x.about(0, 2), 0);
    }

    private static void of() {
        Check.part("promise 13");
        EarwigPost x = new EarwigPost();
        Check.due("of nobody", x.of(0, 0), -2);
        x.sleeper(5);
        x.sleeper(4);
        x.flower(0, 4, 1);
        x.flower(0, 9, 1);
        x.wool(1, 1);
        x.nights(2);
        int[] due = {4, 1, 1, 16, 8};
        for (int what = 0; what <= 4; what++) {
            Check.due("of(1, " + what + ")", x.of(1, what), due[what]);
        }
        Check.due("nothing for the other", x.of(0, 4), 0);
        int[][] bad = {{-1, 0}, {2, 0}, {0, -1}, {0, 5}};
        for (int[] b : bad) {
            Check.due("of(" + b[0] + ", " + b[1] + ")", x.of(b[0], b[1]), -2);
        }
    }

    private static void about() {
        Check.part("promise 14");
        EarwigPost x = new EarwigPost();
        Check.due("no flower", x.about(0, 0), -2);
        for (int kind = 0; kind < 6; kind++) {
            x.flower(kind, 5, kind);
        }
        // dahlia, lily, rose, weed, tulip, sealed with the word 5 in nights 0 to 3
        int[][] tells = {{5, 7, 10, 3, 7, 7}, {5, 7, 5, 3, 0, 2}, {5, 7, 5, 3, 7, 2}, {5, 7, 10, 3, 0, 7}};
        for (int night = 0; night < 4; night++) {
            for (int kind = 0; kind < 6; kind++) {
                Check.due("kind " + kind + " in night " + night, x.about(kind, 3), tells[night][kind]);
            }
            x.nights(1);
        }
        Check.due("kind", x.about(4, 0), 4);
        Check.due("word", x.about(4, 1), 5);
        Check.due("pillow", x.about(4, 2), 4);
        int[][] bad = {{-1, 0}, {6, 0}, {0, -1}, {0, 4}};
        for (int[] b : bad) {
            Check.due("about(" + b[0] + ", " + b[1] + ")", x.about(b[0], b[1]), -2);
        }
        x.office();
        x.flower(3, 1, 0);
        x.flower(3, 2, 0);
        x.flower(5, 1, 0);
        x.flower(5, 2, 0);
        Check.due("half of 1 is cut up", x.about(0, 3), 1);
        Check.due("half of 2", x.about(1, 3), 1);
        Check.due("sealed is 0 at least", x.about(2, 3), 0);
        Check.due("sealed of 4", x.about(3, 3), 1);
    }

    public static void main(String[] args) {
        nights();
        lastNight();
        swaps();
        wool();
        sends();
        undo();
        undoOfSix();
        of();
        about();
        Check.end();
    }
}

/** Promises 15 to 20: what is believed tonight and in nights ahead, and what would change it. */
final class BelievedTest {
    private static void believes() {
        Check.part("promise 15");
        EarwigPost x = new EarwigPost();
        Check.due("nobody, no flower", x.believes(0, 0), -2);
        for (int kind = 0; kind < 6; kind++) {
            x.sleeper(kind);
        }
        Check.due("no flower", x.believes(0, 0), -2);
        int[] words = {1, 3, 4, 9};
        for (int word : words) {
            x.flower(0, word, 0);
        }
        // plain, deaf, politician, lady, clerk, actress by words 1, 3, 4, 9 with wool 0, then 2
        int[][] without = {{1, 3, 4, 9}, {0, 1, 2, 4}, {2, 4, 5, 10}, {0, 0, 2, 4}, {1, 3, 4, 5}, {4, 8, 10, 20}};
        int[][] with = {{0, 1, 2, 7}, {0, 0, 1, 3}, {1, 2, 3, 8}, {0, 0, 1, 3}, {0, 1, 2, 5}, {2, 4, 6, 16}};
        for (int i = 0; i < 6; i++) {
            for (int f = 0; f < 4; f++) {
                Check.due("believes(" + i + ", " + f + ")", x.believes(i, f), without[i][f]);
            }
            x.wool(i, 2);
            for (int f = 0; f < 4; f++) {
                Check.due("believes(" + i + ", " + f + ") with wool", x.believes(i, f), with[i][f]);
            }
        }
        int[][] bad = {{-1, 0}, {6, 0}, {0, -1}, {0, 4}};
        for (int[] b : bad) {
            Check.due("believes(" + b[0] + ", " + b[1] + ")", x.believes(b[0], b[1]), -2);
        }
        x.office();
        x.sleeper(2);
        x.flower(4, 9, 3);
        Check.due("wherever it is sent", x.believes(0, 0), 12);
        x.nights(1);
        Check.due("a silent tulip", x.believes(0, 0), 0);
    }

    private static void then() {
        Check.part("promise 16");
        EarwigPost x = new EarwigPost();
        Check.due("nobody", x.then(0, 0), -2);
        x.sleeper(0);
        x.flower(2, 4, 0);
        x.nights(1);
        int[] due = {8, 12, 16, 24, 28};
        for (int m = 0; m < due.length; m++) {
            Check.due("then(0, " + m + ")", x.then(0, m), due[m]);
        }
        long before = x.digest();
        Check.due("then(0, 60)", x.then(0, 60), 8 + 60 * 4 + 20 * 4);
        Check.due("nothing is changed", x.digest(), before);
        int[][] bad = {{-1, 0}, {1, 0}, {0, -1}, {0, 61}};
        for (int[] b : bad) {
            Check.due("then(" + b[0] + ", " + b[1] + ")", x.then(b[0], b[1]), -2);
        }
        x.office();
        for (int k = 0; k < 16; k++) {
            x.nights(60);
        }
        x.nights(37);
        x.sleeper(0);
        x.flower(4, 7, 0);
        Check.due("night 997 is odd", x.then(0, 1), 0);
        Check.due("nights go beyond 999", x.then(0, 6), 27);
        x.flower(2, 9, 0);
        x.sends(0, 5);
        Check.due("999, 1002, 1005 are loud", x.then(0, 9), 9 * 9 + 3 * 9);
        x.office();
        x.sleeper(5);
        x.flower(0, 9, 0);
        x.nights(49);
        Check.due("20 a night", x.then(0, 0), 980);
        Check.due("mind is 999 at most", x.then(0, 1), 999);
        Check.due("mind is 999 at most, later", x.then(0, 60), 999);
    }

    private static void when() {
        Check.part("promise 17");
        EarwigPost x = new EarwigPost();
        Check.due("nobody", x.when(0), -2);
        x.sleeper(0);
        Check.due("when(-1)", x.when(-1), -2);
        Check.due("when(1)", x.when(1), -2);
        Check.due("never", x.when(0), -1);
        x.flower(2, 4, 0);
        Check.due("8, 12, 16, 24", x.when(0), 4);
        long before = x.digest();
        x.when(0);
        Check.due("nothing is changed", x.digest(), before);
        x.nights(3);
        Check.due("one more", x.when(0), 1);
        x.nights(1);
        Check.due("he does it", x.when(0), 0);
        Check.due("at 24", x.of(0, 3), 24);
        x.office();
        x.sleeper(1);
        x.flower(0, 2, 0);
        x.wool(0, 0);
        Check.due("one a night", x.when(0), 20);
        x.flower(0, 9, 1);
        x.office();
        x.sleeper(0);
        x.sleeper(1);
        x.flower(5, 1, 0);
        x.flower(5, 2, 1);
        Check.due("never, if it is too soft", x.when(0), -1);
        Check.due("deaf to 1", x.when(1), -1);
        x.office();
        x.sleeper(0);
        x.flower(5, 2, 0);
        Check.due("1 in each third night: the 20th is 57", x.when(0), 58);
        x.nights(1);
        x.nights(1);
        x.wool(0, 1);
        Check.due("with wool never", x.when(0), -1);
        x.office();
        x.sleeper(0);
        x.nights(1);
        x.flower(5, 2, 0);
        Check.due("behind a night: 60 is in", x.when(0), 60);
        x.undo();
        x.office();
        x.nights(1);
        x.sleeper(0);
        x.flower(5, 2, 0);
        x.swaps(0, 5);
        Check.due("elsewhere never", x.when(0), -1);
    }

    private static void pillows() {
        Check.part("promise 18");
        EarwigPost x = new EarwigPost();
        Check.due("of nobody", x.pillows(1, -1), 0);
        Check.due("of nobody, least", x.pillows(0, -1), 0);
        Check.due("status(0)", x.status(0), 0);
        x.sleeper(0);
        int[][] bad = {{2, -1}, {-1, -1}, {0, -2}, {1, 1}};
        for (int[] b : bad) {
            Check.due("pillows(" + b[0] + ", " + b[1] + ")", x.pillows(b[0], b[1]), -10);
        }
        Check.due("they count as bad", x.status(0), 4);
        x.sleeper(5);
        x.sleeper(4);
        x.flower(0, 9, 1);
        x.flower(0, 8, 3);
        x.flower(0, 5, 3);
        x.flower(0, 4, 5);
        // the actress gets 20, 30, 10; the clerk 5, 10, 4; the plain one 9, 13, 4
        Check.due("most", x.pillows(1, -1), 30 + 9 + 4);
        Check.due("most: plain one", x.pillows(1, 0), 1);
        Check.due("most: actress", x.pillows(1, 1), 3);
        Check.due("most: clerk", x.pillows(1, 2), 5);
        Check.due("least", x.pillows(0, -1), 0);
        Check.due("least: plain one", x.pillows(0, 0), 0);
        Check.due("least: actress", x.pillows(0, 1), 2);
        Check.due("least: clerk", x.pillows(0, 2), 4);
        long before = x.digest();
        x.pillows(1, 2);
        Check.due("nothing is changed", x.digest(), before);
        x.sends(3, 1);
        x.sends(2, 1);
        // on pillow 1 the actress gets 42, the plain one 18, the clerk 14; on pillow 3 18, 8, 5
        Check.due("elsewhere: most", x.pillows(1, -1), 50);
        Check.due("elsewhere: plain one", x.pillows(1, 0), 3);
        Check.due("elsewhere: actress", x.pillows(1, 1), 1);
        Check.due("elsewhere: clerk on the first that is left", x.pillows(1, 2), 0);
        x.office();
        x.sleeper(0);
        x.sleeper(0);
        x.flower(0, 3, 4);
        Check.due("of like ways the first: 0", x.pillows(1, 0), 0);
        Check.due("of like ways the first: 1", x.pillows(1, 1), 4);
        Check.due("least of like ways: 0", x.pillows(0, 0), 0);
        Check.due("least of like ways: 1", x.pillows(0, 1), 1);
        x.office();
        for (int p = 0; p < 6; p++) {
            x.sleeper(0);
            x.flower(0, p + 1, p);
        }
        x.wool(5, 4);
        x.wool(4, 2);
        Check.due("six: most", x.pillows(1, -1), 21 - 1 - 2);
        int[] most = {1, 2, 3, 4, 5, 0};
        Check.due("six: least", x.pillows(0, -1), 21 - 4 - 2);
        for (int i = 0; i < 6; i++) {
            Check.due("six: most, on which " + i, x.pillows(1, i), most[i]);
            Check.due("six: least, on which " + i, x.pillows(0, i), i);
        }
        x.office();
        x.sleeper(0);
        Check.due("those of an office before are gone", x.pillows(1, -1), 0);
        x.flower(0, 2, 5);
        Check.due("one alone", x.pillows(1, -1), 2);
        Check.due("one alone, on which", x.pillows(1, 0), 5);
        Check.due("one alone, least", x.pillows(0, -1), 0);
    }

    private static void least() {
        Check.part("promise 19");
        EarwigPost x = new EarwigPost();
        Check.due("nobody", x.least(0), -2);
        x.sleeper(0);
        Check.due("least(-1)", x.least(-1), -2);
        Check.due("least(1)", x.least(1), -2);
        Check.due("nothing is told", x.least(0), 0);
        x.flower(0, 9, 1);
        Check.due("nothing is told there", x.least(0), 0);
        x.flower(0, 4, 0);
        Check.due("word of 4", x.least(0), 4);
        x.flower(0, 9, 0);
        Check.due("word of 9", x.least(0), 9);
        x.wool(0, 5);
        Check.due("his own wool is all the same", x.least(0), 9);
        x.flower(1, 8, 0);
        Check.due("lily of 8", x.least(0), -1);
        x.office();
        x.sleeper(1);
        x.sleeper(2);
        x.sleeper(3);
        x.flower(0, 4, 0);
        x.flower(0, 1, 1);
        x.flower(0, 3, 2);
        Check.due("deaf", x.least(0), 3);
        Check.due("a politician always believes", x.least(1), -1);
        Check.due("a lady hears none below 4", x.least(2), 0);
        long before = x.digest();
        x.least(0);
        Check.due("nothing is changed", x.digest(), before);
    }

    private static void send() {
        Check.part("promise 20");
        EarwigPost x = new EarwigPost();
        Check.due("nobody", x.send(0, 0), -2);
        x.sleeper(0);
        int[][] bad = {{-1, 0}, {1, 0}, {0, -1}, {0, 2}};
        for (int[] b : bad) {
            Check.due("send(" + b[0] + ", " + b[1] + ")", x.send(b[0], b[1]), -2);
        }
        Check.due("no flower", x.send(0, 0), -1);
        Check.due("no flower, which", x.send(0, 1), -1);
        x.flower(5, 1, 3);
        Check.due("too soft", x.send(0, 0), -1);
        Check.due("too soft, which", x.send(0, 1), -1);
        x.flower(0, 4, 0);
        Check.due("one that is sent there already: 4, 8, 12, 16, 20", x.send(0, 0), 5);
        Check.due("of like ones the first", x.send(0, 1), 0);
        x.flower(4, 3, 2);
        Check.due("with a tulip: 9, 13, 22", x.send(0, 0), 3);
        Check.due("the tulip", x.send(0, 1), 2);
        x.flower(0, 3, 1);
        Check.due("with a dahlia of 3: 7, 14, 21 is no sooner", x.send(0, 1), 2);
        x.flower(0, 6, 1);
        Check.due("with a dahlia of 6: 10, 20", x.send(0, 0), 2);
        Check.due("the dahlia", x.send(0, 1), 4);
        long before = x.digest();
        x.send(0, 0);
        Check.due("nothing is changed", x.digest(), before);
        x.nights(5);
        Check.due("he does it", x.send(0, 0), 0);
        Check.due("he does it: the first", x.send(0, 1), 0);
    }

    private static void sendLate() {
        EarwigPost x = new EarwigPost();
        x.nights(1);
        x.sleeper(0);
        x.flower(5, 2, 3);
        Check.due("1 in each third night, in 60", x.send(0, 0), 60);
        Check.due("in 60, by it", x.send(0, 1), 0);
        x.nights(3);
        Check.due("it is not sent yet: 60 again", x.send(0, 0), 60);
        x.nights(1);
        Check.due("of 60 nights 20 are loud", x.send(0, 0), 59);
    }

    public static void main(String[] args) {
        believes();
        then();
        when();
        pillows();
        least();
        send();
        sendLate();
        Check.end();
    }
}

/** Promises 21 to 33: what was sent, what somebody or something is, the next look, senders, slips, decades. */
final class SentTest {
    private static void rose() {
        Check.part("promise 21");
        EarwigPost x = new EarwigPost();
        Check.due("nobody", x.rose(0, 0, 0), -2);
        x.sleeper(0);
        int[][] bad = {{-1, 0, 0}, {1, 0, 0}, {0, -1, 0}, {0, 100, 0}, {0, 0, -1}, {0, 0, 201}};
        for (int[] b : bad) {
            Check.due("rose(" + b[0] + ", " + b[1] + ", " + b[2] + ")", x.rose(b[0], b[1], b[2]), -2);
        }
        x.nights(1);
        Check.due("rose(0, 99, 200)", x.rose(0, 99, 200), 1);
        for (int k = 2; k <= 5; k++) {
            Check.due("one more", x.rose(0, 0, 0), k);
        }
        Check.due("a sixth", x.rose(0, 0, 0), -4);
        Check.due("a bad sixth", x.rose(0, 0, 201), -2);
        Check.due("count(5)", x.count(5), 5);
        Check.due("what may be undone stays", x.count(8), 1);
    }

    private static void sent() {
        Check.part("promise 22");
        EarwigPost x = new EarwigPost();
        Check.due("nobody", x.sent(0, 0), -2);
        x.sleeper(0);
        x.sleeper(0);
        int[][] bad = {{-1, 0}, {2, 0}, {0, -1}, {0, 3}};
        for (int[] b : bad) {
            Check.due("sent(" + b[0] + ", " + b[1] + ")", x.sent(b[0], b[1]), -2);
        }
        dueSets(x, 0, 1, 0, 0);
        x.flower(0, 2, 5);
        x.flower(0, 3, 0);
        x.flower(0, 5, 1);
        x.flower(2, 5, 2);
        dueSets(x, 0, 16, 0, 15);
        x.rose(0, 1, 10);
        // 2 3 5, 2 3 5', 5 5'
        dueSets(x, 0, 3, 0, 15);
        dueSets(x, 1, 16, 0, 15);
        x.rose(0, 3, 15);
        // in night 3 the rose is 10: 2 3 5' and 5 5' both give 15, 2 3 5 gives 10
        dueSets(x, 0, 2, 8, 15);
        x.rose(0, 0, 15);
        dueSets(x, 0, 2, 8, 15);
        x.wool(0, 1);
        // with wool of 1 they give 1 2 4 and the rose 9 or 4: 3 5 5' give 15 15 10
        dueSets(x, 0, 1, 14, 14);
        x.rose(0, 2, 9);
        dueSets(x, 0, 0, -1, 0);
        x.forget(0);
        x.rose(0, 1, 11);
        // all four of them
        dueSets(x, 0, 1, 15, 15);
        x.rose(1, 2, 200);
        dueSets(x, 0, 1, 15, 15);
        dueSets(x, 1, 0, -1, 0);
        long before = x.digest();
        x.sent(0, 1);
        Check.due("nothing is changed", x.digest(), before);
    }

    private static void sentByNight() {
        EarwigPost x = new EarwigPost();
        x.sleeper(0);
        x.flower(4, 4, 0);
        x.flower(2, 3, 0);
        x.rose(0, 2, 9);
        dueSets(x, 0, 1, 3, 3);
        x.forget(0);
        x.rose(0, 7, 3);
        dueSets(x, 0, 2, 2, 3);
        x.rose(0, 9, 6);
        dueSets(x, 0, 2, 2, 3);
        x.rose(0, 98, 3);
        dueSets(x, 0, 1, 2, 2);
        x.rose(0, 6, 0);
        dueSets(x, 0, 0, -1, 0);
        x.forget(0);
        x.rose(0, 5, 0);
        dueSets(x, 0, 2, 0, 1);
    }

    private static void dueSets(EarwigPost x, int i, int many, int all, int some) {
        Check.due("sent(" + i + ", 0)", x.sent(i, 0), many);
        Check.due("sent(" + i + ", 1)", x.sent(i, 1), all);
        Check.due("sent(" + i + ", 2)", x.sent(i, 2), some);
    }

    private static void tell() {
        Check.part("promise 23");
        EarwigPost x = new EarwigPost();
        Check.due("nobody", x.tell(0), -2);
        x.sleeper(0);
        Check.due("tell(-1)", x.tell(-1), -2);
        Check.due("tell(1)", x.tell(1), -2);
        Check.due("the empty set alone", x.tell(0), 0);
        x.flower(0, 2, 0);
        x.flower(0, 3, 0);
        x.flower(0, 5, 0);
        x.flower(2, 5, 0);
        x.rose(0, 1, 10);
        // 2 3 5, 2 3 5', 5 5' give 10 15 15 in night 0, 10 10 10 in night 1
        Check.due("two alike at best", x.tell(0), 0);
        x.forget(0);
        x.office();
        x.sleeper(0);
        x.flower(0, 6, 0);
        x.flower(4, 4, 0);
        x.rose(0, 2, 6);
        // either of them gives 6 in even nights; in night 1 they give 6 and 0
        Check.due("night 1 parts them", x.tell(0), 1);
        x.rose(0, 2, 7);
        Check.due("no set", x.tell(0), -1);
        x.office();
        x.sleeper(0);
        x.flower(0, 4, 0);
        x.flower(2, 4, 0);
        x.flower(4, 2, 0);
        x.rose(0, 2, 4);
        // in night 0 they give 4 8 4, in night 1 4 4 0, in night 3 4 8 0
        Check.due("night 3 parts three", x.tell(0), 3);
        long before = x.digest();
        x.tell(0);
        Check.due("nothing is changed", x.digest(), before);
        x.office();
        x.sleeper(0);
        x.flower(0, 4, 0);
        x.flower(0, 4, 0);
        x.rose(0, 0, 4);
        Check.due("no night parts them", x.tell(0), 0);
    }

    private static void note() {
        Check.part("promise 24");
        EarwigPost x = new EarwigPost();
        Check.due("no flower", x.note(0, 1, 0, 0), -2);
        x.flower(0, 1, 0);
        int[][] bad = {{-1, 1, 0, 0}, {1, 1, 0, 0}, {0, 0, 0, 0}, {0, 10, 0, 0}, {0, 1, -1, 0}, {0, 1, 100, 0},
            {0, 1, 0, -1}, {0, 1, 0, 21}};
        for (int[] b : bad) {
            Check.due("note(" + b[0] + ", " + b[1] + ", " + b[2] + ", " + b[3] + ")",
                x.note(b[0], b[1], b[2], b[3]), -2);
        }
        Check.due("note(0, 9, 99, 20)", x.note(0, 9, 99, 20), 1);
        for (int k = 2; k <= 6; k++) {
            Check.due("one more", x.note(0, 1, 0, 0), k);
        }
        Check.due("a seventh", x.note(0, 1, 0, 0), -4);
        Check.due("a bad seventh", x.note(0, 1, 0, 21), -2);
        Check.due("count(6)", x.count(6), 6);
    }

    private static void mark() {
        Check.part("promise 25");
        EarwigPost x = new EarwigPost();
        Check.due("nobody", x.mark(0, 0, 0, 0), -2);
        x.sleeper(0);
        int[][] bad = {{-1, 0, 0, 0}, {1, 0, 0, 0}, {0, -1, 0, 0}, {0, 21, 0, 0}, {0, 0, -1, 0}, {0, 0, 10, 0},
            {0, 0, 0, -1}, {0, 0, 0, 51}};
        for (int[] b : bad) {
            Check.due("mark(" + b[0] + ", " + b[1] + ", " + b[2] + ", " + b[3] + ")",
                x.mark(b[0], b[1], b[2], b[3]), -2);
        }
        Check.due("mark(0, 20, 9, 50)", x.mark(0, 20, 9, 50), 1);
        for (int k = 2; k <= 6; k++) {
            Check.due("one more", x.mark(0, 0, 0, 0), k);
        }
        Check.due("a seventh", x.mark(0, 0, 0, 0), -4);
        Check.due("a bad seventh", x.mark(0, 0, 0, 51), -2);
        Check.due("count(7)", x.count(7), 6);
    }

    private static void forget() {
        Check.part("promise 26");
        EarwigPost x = new EarwigPost();
        x.sleeper(0);
        x.flower(0, 1, 0);
        x.rose(0, 0, 0);
        x.rose(0, 0, 0);
        x.rose(0, 0, 0);
        x.note(0, 1, 0, 0);
        x.note(0, 1, 0, 0);
        x.mark(0, 0, 0, 0);
        x.nights(1);
        Check.due("forget(-1)", x.forget(-1), -2);
        Check.due("forget(3)", x.forget(3), -2);
        Check.due("forget(1)", x.forget(1), 2);
        Check.due("notes", x.count(6), 0);
        Check.due("roses stay", x.count(5), 3);
        Check.due("marks stay", x.count(7), 1);
        Check.due("forget(0)", x.forget(0), 3);
        Check.due("roses", x.count(5), 0);
        Check.due("marks stay still", x.count(7), 1);
        Check.due("forget(2)", x.forget(2), 1);
        Check.due("marks", x.count(7), 0);
        Check.due("forget(2) again", x.forget(2), 0);
        Check.due("what may be undone stays", x.count(8), 1);
    }

    private static void is() {
        Check.part("promise 27");
        EarwigPost x = new EarwigPost();
        Check.due("no flower", x.is(0), -2);
        x.flower(0, 1, 0);
        x.flower(0, 1, 0);
        Check.due("is(-1)", x.is(-1), -2);
        Check.due("is(2)", x.is(2), -2);
        Check.due("no note", x.is(0), 63);
        x.note(0, 6, 1, 6);
        Check.due("6 of 6 in night 1: dahlia, rose", x.is(0), 1 + 4);
        Check.due("the other", x.is(1), 63);
        x.note(0, 6, 3, 6);
        Check.due("6 of 6 in night 3: dahlia", x.is(0), 1);
        x.note(1, 4, 2, 6);
        Check.due("6 of 4 in night 2: lily, tulip", x.is(1), 2 + 16);
        x.note(1, 1, 1, 0);
        Check.due("0 of 1 in night 1: tulip, not sealed", x.is(1), 16);
        x.note(1, 1, 0, 0);
        Check.due("none", x.is(1), 0);
        Check.due("the first is left alone", x.is(0), 1);
        x.forget(1);
        x.note(0, 2, 1, 1);
        Check.due("1 of 2 in night 1: weed", x.is(0), 8);
        x.forget(1);
        x.note(0, 4, 1, 1);
        Check.due("1 of 4 in night 1: sealed", x.is(0), 32);
    }

    private static void look() {
        Check.part("promise 28");
        EarwigPost x = new EarwigPost();
        Check.due("no flower", x.look(0), -2);
        x.flower(0, 1, 0);
        x.flower(0, 3, 0);
        x.flower(0, 9, 0);
        Check.due("look(-1)", x.look(-1), -2);
        Check.due("look(3)", x.look(3), -2);
        // word 1: night 0 tells 1 3 2 1 3 0
        Check.due("two alike at once", x.look(0), 0);
        // word 3: night 0 tells 3 5 6 2 5 3, night 1 tells 3 5 3 2 0 0
        Check.due("two alike", x.look(1), 0);
        // word 9: night 0 tells 9 11 18 5 11 15, night 3 tells 9 11 18 5 0 15
        Check.due("night 3 parts all", x.look(2), 3);
        x.note(2, 6, 1, 6);
        Check.due("dahlia or rose by night 0", x.look(2), 0);
        x.note(2, 6, 3, 6);
        Check.due("one is left", x.look(2), 0);
        x.note(2, 6, 3, 7);
        Check.due("none is left", x.look(2), -1);
        x.note(0, 5, 0, 7);
        // lily, tulip, sealed by 5 in night 0; of word 1 night 0 tells 3 3 0, night 1 3 0 0, night 3 3 0 0
        Check.due("two alike in any night", x.look(0), 0);
        x.forget(1);
        x.note(0, 3, 0, 5);
        Check.due("lily, tulip by night 1", x.look(0), 1);
        long before = x.digest();
        x.look(0);
        Check.due("nothing is changed", x.digest(), before);
    }

    private static void kinds() {
        Check.part("promise 29");
        EarwigPost x = new EarwigPost();
        Check.due("nobody", x.kinds(0), -2);
        x.sleeper(0);
        x.sleeper(0);
        Check.due("kinds(-1)", x.kinds(-1), -2);
        Check.due("kinds(2)", x.kinds(2), -2);
        Check.due("no mark", x.kinds(0), 63);
        x.mark(0, 6, 2, 4);
        Check.due("4 of 6 with wool 2: plain, clerk", x.kinds(0), 1 + 16);
        Check.due("the other", x.kinds(1), 63);
        x.mark(0, 9, 0, 5);
        Check.due("5 of 9: clerk", x.kinds(0), 16);
        x.mark(1, 5, 0, 2);
        Check.due("2 of 5: deaf, lady", x.kinds(1), 2 + 8);
        x.mark(1, 3, 0, 1);
        Check.due("1 of 3: deaf", x.kinds(1), 2);
        x.mark(1, 3, 0, 0);
        Check.due("none", x.kinds(1), 0);
        Check.due("the first is left alone", x.kinds(0), 16);
        x.forget(2);
        x.mark(0, 1, 9, 1);
        Check.due("1 of 1 with wool 9: politician", x.kinds(0), 4);
        x.forget(2);
        x.mark(0, 0, 0, 0);
        x.mark(0, 20, 0, 42);
        Check.due("0 of 0, 42 of 20: actress", x.kinds(0), 32);
    }

    private static void ask() {
        Check.part("promise 30");
        EarwigPost x = new EarwigPost();
        Check.due("nobody", x.ask(0), -2);
        x.sleeper(0);
        Check.due("ask(-1)", x.ask(-1), -2);
        Check.due("ask(1)", x.ask(1), -2);
        Check.due("all kinds: two alike by 1", x.ask(0), 10);
        x.mark(0, 6, 2, 4);
        Check.due("plain, clerk: by 6 without wool", x.ask(0), 60);
        x.mark(0, 9, 0, 5);
        Check.due("one is left", x.ask(0), 0);
        x.mark(0, 9, 0, 6);
        Check.due("none is left", x.ask(0), -1);
        x.forget(2);
        x.mark(0, 5, 0, 2);
        Check.due("deaf, lady: by 2 without wool", x.ask(0), 20);
        x.forget(2);
        x.mark(0, 0, 0, 0);
        x.mark(0, 5, 5, 0);
        // plain, deaf, lady, clerk: by 1 they believe 1 0 0 1, by 2 2 1 0 2, by 6 6 3 3 5; never all apart
        Check.due("four: two alike by 1", x.ask(0), 10);
        long before = x.digest();
        x.ask(0);
        Check.due("nothing is changed", x.digest(), before);
    }

    private static void senders() {
        Check.part("promise 31");
        EarwigPost x = new EarwigPost();
        Check.due("no flowers", x.senders(0, 1, -1), -10);
        x.flower(0, 3, 0);
        Check.due("one flower", x.senders(0, 1, -1), -10);
        x.flower(0, 5, 0);
        int[][] bad = {{-1, 1, 0}, {0, -1, 0}, {2, 1, 0}, {0, 2, 0}, {1, 1, 0}, {0, 1, -2}};
        for (int[] b : bad) {
            Check.due("senders(" + b[0] + ", " + b[1] + ", " + b[2] + ")", x.senders(b[0], b[1], b[2]), -10);
        }
        Check.due("they count as bad", x.status(0), 8);
        Check.due("nobody lies there: all but one pillow", x.senders(0, 1, -1), 30);
        Check.due("the first", x.senders(0, 1, 0), 1);
        Check.due("the sixth", x.senders(0, 1, 5), 10);
        Check.due("the last", x.senders(0, 1, 29), 54);
        Check.due("not so many", x.senders(0, 1, 30), -5);
        Check.due("not nearly so many", x.senders(0, 1, Integer.MAX_VALUE), -5);
        Check.due("that is no refusal", x.status(0) + x.status(1) + x.status(2), 8);
        x.sleeper(0);
        x.sleeper(0);
        x.wool(1, 1);
        // on pillow 0 they get 3 and 5, on pillow 1 2 and 4, less 2 if both are on one
        Check.due("two rest", x.senders(0, 1, -1), 2);
        Check.due("the first rests on 0", x.senders(0, 1, 0), 1);
        Check.due("the second rests on 0", x.senders(0, 1, 1), 10);
        Check.due("not a third", x.senders(0, 1, 2), -5);
        Check.due("the other way about", x.senders(1, 0, 0), 1);
        x.wool(1, 3);
        // on pillow 1 they get 0 and 2 now; both on 0 get 1 and 3
        Check.due("both on 0", x.senders(0, 1, -1), 1);
        Check.due("that is 0", x.senders(0, 1, 0), 0);
        long before = x.digest();
        x.senders(0, 1, 0);
        Check.due("nothing is changed", x.digest(), before);
        x.flower(0, 9, 1);
        Check.due("all others as they are", x.senders(0, 1, 0), 0);
        x.wool(0, 9);
        x.wool(1, 9);
        Check.due("who believes nothing is as good as nobody", x.senders(0, 1, -1), 30);
        x.wool(0, 0);
        x.wool(1, 2);
        // on pillow 1 they get 1 and 3: the like is no more
        Check.due("a like pillow rests, too", x.senders(0, 1, -1), 3);
    }

    private static void slips() {
        Check.part("promise 32");
        EarwigPost x = new EarwigPost();
        Check.due("nobody", x.slips(0, 0), -2);
        x.sleeper(0);
        int[][] bad = {{-1, 0}, {1, 0}, {0, -1}, {0, 11}};
        for (int[] b : bad) {
            Check.due("slips(" + b[0] + ", " + b[1] + ")", x.slips(b[0], b[1]), -2);
        }
        dueMean(x, 0, 5, 0, 1);
        x.flower(0, 7, 0);
        dueMean(x, 0, 0, 7, 1);
        dueMean(x, 0, 3, 49, 10);
        dueMean(x, 0, 5, 7, 2);
        dueMean(x, 0, 10, 0, 1);
        x.flower(0, 4, 5);
        dueMean(x, 0, 0, 7, 1);
        dueMean(x, 0, 3, 61, 10);
        dueMean(x, 0, 10, 4, 1);
        x.flower(0, 9, 1);
        dueMean(x, 0, 6, 26, 5);
        x.wool(0, 5);
        dueMean(x, 0, 6, 4, 5);
        Check.due("of(0, 4)", x.of(0, 4), 2);
        x.sleeper(5);
        x.flower(4, 1, 0);
        dueMean(x, 1, 5, 10 + 8 + 4, 1);
        x.nights(1);
        dueMean(x, 1, 5, 18, 1);
        Check.due("flowers stay where they are", x.about(0, 2), 0);
        Check.due("refused", x.slips(0, 11), -2);
        Check.due("the fraction stays, above", x.part(0), 18);
    }

    private static void dueMean(EarwigPost x, int i, int c, long above, long below) {
        Check.due("slips(" + i + ", " + c + ")", x.slips(i, c), 1);
        Check.due("part(0) behind slips(" + i + ", " + c + ")", x.part(0), above);
        Check.due("part(1) behind slips(" + i + ", " + c + ")", x.part(1), below);
    }

    private static void decades() {
        Check.part("promise 33");
        EarwigPost x = new EarwigPost();
        int[][] bad = {{-1, 0}, {1000000, 0}, {0, -1}, {0, 61}};
        for (int[] b : bad) {
            Check.due("decades(" + b[0] + ", " + b[1] + ")", x.decades(b[0], b[1]), -2);
        }
        Check.due("nobody", x.decades(999999, 60), 0);
        x.sleeper(0);
        x.flower(0, 9, 0);
        x.nights(3);
        Check.due("no night", x.decades(5, 0), 1);
        x.office();
        for (int p = 0; p < 6; p++) {
            x.sleeper(5);
        }
        x.flower(0, 9, 0);
        long before = x.digest();
        // X by seed 1 is 1103527590, 377401575, 662824084, 1147902781, 2035015474: flowers 2 4 3 1 1
        Check.due("by seed 1 one night: nothing is sent, one does it", x.decades(1, 1), 1);
        Check.due("by seed 1 five nights", x.decades(1, 5), 1);
        // X by seed 0 is 12345, 1406932606, 654583775, 1449466924, 229283573: flowers 0 0 4 1 0 to 0 3 0 2 2
        Check.due("by seed 0 one night", x.decades(0, 1), 1);
        Check.due("by seed 0 two nights", x.decades(0, 2), 2);
        Check.due("by seed 0 four nights", x.decades(0, 4), 2);
        Check.due("by seed 0 five nights", x.decades(0, 5), 3);
        Check.due("nothing is changed", x.digest(), before);
        for (int f = 1; f < 6; f++) {
            x.flower(0, 9, 0);
        }
        Check.due("six flowers, by seed 7", x.decades(7, 60), 6);
        x.office();
        for (int k = 0; k < 17; k++) {
            x.nights(60);
        }
        x.sleeper(5);
        x.flower(0, 9, 0);
        Check.due("nights go beyond 999", x.decades(1, 1), 1);
    }

    public static void main(String[] args) {
        rose();
        sent();
        sentByNight();
        tell();
        note();
        mark();
        forget();
        is();
        look();
        kinds();
        ask();
        senders();
        slips();
        decades();
        Check.end();
    }
}

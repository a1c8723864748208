/** The edges that the document names in promises 21 to 33, sentence by sentence. */
final class SentEdgesTest {
    private static void rose() {
        Check.says("ROSE 0 .. 4, as they come: a SLEEPER BELIEVED x (0 .. 200) in NIGHT n (0 .. 99).");
        EarwigPost x = Given.told("sleeper0 0;");
        Check.due("rose(0, 0, 201)", x.rose(0, 0, 201), -2);
        Check.due("rose(0, 0, -1)", x.rose(0, 0, -1), -2);
        Check.due("rose(0, 100, 0)", x.rose(0, 100, 0), -2);
        Check.due("rose(0, -1, 0)", x.rose(0, -1, 0), -2);
        Check.due("rose(1, 0, 0)", x.rose(1, 0, 0), -2);
        Check.due("rose(-1, 0, 0)", x.rose(-1, 0, 0), -2);
        Check.due("none came", x.count(5), 0);

        Check.says("ROSE: how many there are. BAD; FULL: 5.");
        Check.due("x 200", x.rose(0, 0, 200), 1);
        Check.due("x 0", x.rose(0, 0, 0), 2);
        Check.due("n 99", x.rose(0, 99, 0), 3);
        Check.due("a 4th", x.rose(0, 99, 200), 4);
        Check.due("a 5th", x.rose(0, 1, 1), 5);
        Check.due("a 6th", x.rose(0, 0, 0), -4);
        Check.due("a 6th that is bad", x.rose(0, 100, 0), -2);
        Check.due("five there are", x.count(5), 5);
        x.forget(0);
        Check.due("room again", x.rose(0, 0, 0), 1);
    }

    private static void sent() {
        Check.says("SENT: how many (0), in all (1; bits; NONE: no set), in some (2; bits). BAD.");
        EarwigPost x = Given.told("sleeper0 0;sleeper0 0;");
        Check.due("sent(0, 3)", x.sent(0, 3), -2);
        Check.due("sent(0, -1)", x.sent(0, -1), -2);
        Check.due("sent(2, 0)", x.sent(2, 0), -2);
        Check.due("sent(-1, 0)", x.sent(-1, 0), -2);
        dueSets(x, 0, 1, 0, 0);
        x.rose(0, 0, 1);
        dueSets(x, 0, 0, -1, 0);
        dueSets(x, 1, 1, 0, 0);

        Check.says("sets of FLOWERS (all that there are, wherever they are sent)");
        x = Given.told("sleeper0 0;flower0 1 0;flower0 2 1;flower0 4 2;flower0 8 3;flower0 9 4;flower0 9 5;");
        dueSets(x, 0, 64, 0, 63);
        x.rose(0, 0, 0);
        dueSets(x, 0, 1, 0, 0);
        x.forget(0);
        x.rose(0, 99, 33);
        dueSets(x, 0, 1, 63, 63);
        x.forget(0);
        x.rose(0, 0, 34);
        dueSets(x, 0, 0, -1, 0);
        x.forget(0);
        x.rose(0, 0, 8);
        dueSets(x, 0, 1, 8, 8);
        x.forget(0);
        x.rose(0, 0, 9);
        // 1 8, 9, 9'
        dueSets(x, 0, 3, 0, 1 + 8 + 16 + 32);

        Check.says("with his WOOL as it is");
        x.wool(0, 1);
        // 0 1 3 7 8 8': no 9 but 1' 8, 1' 8' with or without the 0
        dueSets(x, 0, 4, 2, 1 + 2 + 16 + 32);
        x.wool(0, 9);
        dueSets(x, 0, 0, -1, 0);
        x.wool(0, 0);

        Check.says("by all ROSE of him");
        x.rose(0, 1, 9);
        dueSets(x, 0, 3, 0, 57);
        x.rose(0, 1, 8);
        dueSets(x, 0, 0, -1, 0);
        x.sleeper(0);
        dueSets(x, 1, 64, 0, 63);
        x.rose(1, 1, 1);
        dueSets(x, 1, 1, 1, 1);
        dueSets(x, 0, 0, -1, 0);
    }

    private static void dueSets(EarwigPost x, int i, int many, int all, int some) {
        Check.due("sent(" + i + ", 0)", x.sent(i, 0), many);
        Check.due("sent(" + i + ", 1)", x.sent(i, 1), all);
        Check.due("sent(" + i + ", 2)", x.sent(i, 2), some);
    }

    private static void tell() {
        Check.says("TELL: the NIGHT 0 .. 11 by which the most of these sets that would have him BELIEVE alike are fewest; "
            + "of like ones the least; none: no set.");
        EarwigPost x = Given.told("sleeper0 0;");
        Check.due("tell(1)", x.tell(1), -2);
        Check.due("tell(-1)", x.tell(-1), -2);
        Check.due("one set, without a flower", x.tell(0), 0);
        x.rose(0, 0, 1);
        Check.due("no set, without a flower", x.tell(0), -1);
        x = Given.told("sleeper0 0;flower4 4 0;flower0 6 0;");
        x.rose(0, 0, 12);
        Check.due("one set", x.tell(0), 0);
        x.rose(0, 0, 6);
        Check.due("no set", x.tell(0), -1);
        x.forget(0);
        x.rose(0, 0, 6);
        Check.due("two sets, alike in even nights", x.tell(0), 1);
        x = Given.told("sleeper0 0;flower2 4 0;flower0 4 0;");
        x.rose(0, 1, 4);
        Check.due("two sets, unlike in nights by 3 alone", x.tell(0), 0);
        x = Given.told("sleeper0 0;nights1;flower2 4 0;flower4 6 0;");
        x.rose(0, 0, 8);
        // a rose 8 4 4 8, a tulip 8 0 8 0 in nights 0 to 3
        Check.due("the first such night, not tonight's", x.tell(0), 1);
        x = Given.told("sleeper0 0;flower2 4 0;flower4 2 0;flower0 4 0;");
        x.rose(0, 2, 4);
        // a rose 8 4 4 8, a tulip 4 0 4 0, a dahlia 4 4 4 4
        Check.due("three sets, unlike in night 3 first", x.tell(0), 3);
        x = Given.told("sleeper0 0;flower0 4 0;flower0 4 1;");
        x.rose(0, 7, 4);
        Check.due("two sets, alike in any", x.tell(0), 0);
    }

    private static void note() {
        Check.says("NOTES 0 .. 5, as they come: a FLOWER with a WORD w (1 .. 9) TOLD it x (0 .. 20) loud in NIGHT n (0 .. 99).");
        EarwigPost x = Given.told("flower0 1 0;");
        Check.due("note(0, 0, 0, 0)", x.note(0, 0, 0, 0), -2);
        Check.due("note(0, 10, 0, 0)", x.note(0, 10, 0, 0), -2);
        Check.due("note(0, 1, -1, 0)", x.note(0, 1, -1, 0), -2);
        Check.due("note(0, 1, 100, 0)", x.note(0, 1, 100, 0), -2);
        Check.due("note(0, 1, 0, -1)", x.note(0, 1, 0, -1), -2);
        Check.due("note(0, 1, 0, 21)", x.note(0, 1, 0, 21), -2);
        Check.due("note(1, 1, 0, 0)", x.note(1, 1, 0, 0), -2);
        Check.due("note(-1, 1, 0, 0)", x.note(-1, 1, 0, 0), -2);
        Check.due("none came", x.count(6), 0);

        Check.says("A NOTE: how many there are. BAD; FULL: 6.");
        Check.due("w 1, n 0, x 0", x.note(0, 1, 0, 0), 1);
        Check.due("w 9, n 99, x 20", x.note(0, 9, 99, 20), 2);
        for (int k = 3; k <= 6; k++) {
            Check.due("one more", x.note(0, 1, 1, 1), k);
        }
        Check.due("a 7th", x.note(0, 1, 1, 1), -4);
        Check.due("a 7th that is bad", x.note(0, 0, 1, 1), -2);
        Check.due("six there are", x.count(6), 6);
    }

    private static void is() {
        Check.says("IS: KINDS (bits) by which all NOTES of one are so.");
        EarwigPost x = Given.told("flower0 1 0;flower3 1 0;");
        Check.due("is(2)", x.is(2), -2);
        Check.due("is(-1)", x.is(-1), -2);
        Check.due("no note", x.is(0), 63);
        x.note(0, 9, 99, 18);
        Check.due("night 99 is one by 3: a rose", x.is(0), 4);
        Check.due("the note is not of 1", x.is(1), 63);
        x.note(0, 9, 98, 18);
        Check.due("no kind", x.is(0), 0);
        x.note(1, 1, 98, 0);
        Check.due("0 of 1 in night 98: sealed", x.is(1), 32);
        x.note(1, 1, 99, 0);
        Check.due("0 of 1 in night 99, too", x.is(1), 32);
        x.forget(1);
        x.note(1, 1, 99, 0);
        Check.due("0 of 1 in night 99: tulip, sealed", x.is(1), 16 + 32);
    }

    private static void look() {
        Check.says("LOOK: the NIGHT n (0 .. 11) by which, its WORD as it is, the most of these KINDS that TELL alike are fewest; "
            + "of like ones the least; none: no KIND.");
        EarwigPost x = Given.told("flower0 2 0;flower0 6 0;flower0 1 0;");
        Check.due("look(3)", x.look(3), -2);
        Check.due("look(-1)", x.look(-1), -2);
        x.note(0, 6, 1, 6);
        Check.due("dahlia or rose: by night 0", x.look(0), 0);
        x.note(0, 6, 0, 6);
        Check.due("a dahlia: one kind", x.look(0), 0);
        x.note(0, 6, 0, 7);
        Check.due("no kind", x.look(0), -1);
        x.forget(1);
        x.note(0, 6, 2, 8);
        Check.due("lily or tulip: by night 1", x.look(0), 1);
        x.forget(1);
        x.note(1, 7, 4, 4);
        // weed or sealed by a word of 7 in night 4; by its own of 6 a weed is 3, a sealed one 9, then 3
        Check.due("weed or sealed", x.is(1), 8 + 32);
        Check.due("of 6: by night 0", x.look(1), 0);
        x.note(2, 5, 0, 7);
        // lily, tulip, sealed by a word of 5; by its own of 1 they are 3 3 0, then 3 0 0
        Check.due("lily, tulip, sealed", x.is(2), 2 + 16 + 32);
        Check.due("of 1: two alike in any night", x.look(2), 0);
        x = Given.told("flower0 9 0;flower0 2 0;");
        // of 9 they are 9 11 18 5 11 15, then 9 11 9 5 0 6, again the first, then 9 11 18 5 0 15
        Check.due("all six by night 3", x.look(0), 3);
        x.note(1, 4, 1, 4);
        x.note(1, 4, 2, 4);
        Check.due("dahlia or rose", x.is(1), 1 + 4);
        Check.due("dahlia or rose of 2: by night 0", x.look(1), 0);
    }

    private static void mark() {
        Check.says("MARKS 0 .. 5, as they come: a SLEEPER with WOOL c (0 .. 9) BELIEVED y (0 .. 50) of what was x (0 .. 20) loud.");
        EarwigPost x = Given.told("sleeper0 0;");
        Check.due("mark(0, -1, 0, 0)", x.mark(0, -1, 0, 0), -2);
        Check.due("mark(0, 21, 0, 0)", x.mark(0, 21, 0, 0), -2);
        Check.due("mark(0, 0, -1, 0)", x.mark(0, 0, -1, 0), -2);
        Check.due("mark(0, 0, 10, 0)", x.mark(0, 0, 10, 0), -2);
        Check.due("mark(0, 0, 0, -1)", x.mark(0, 0, 0, -1), -2);
        Check.due("mark(0, 0, 0, 51)", x.mark(0, 0, 0, 51), -2);
        Check.due("mark(1, 0, 0, 0)", x.mark(1, 0, 0, 0), -2);
        Check.due("mark(-1, 0, 0, 0)", x.mark(-1, 0, 0, 0), -2);
        Check.due("none came", x.count(7), 0);

        Check.says("A MARK: how many there are. BAD; FULL: 6.");
        Check.due("x 0, c 0, y 0", x.mark(0, 0, 0, 0), 1);
        Check.due("x 20, c 9, y 50", x.mark(0, 20, 9, 50), 2);
        for (int k = 3; k <= 6; k++) {
            Check.due("one more", x.mark(0, 1, 1, 1), k);
        }
        Check.due("a 7th", x.mark(0, 1, 1, 1), -4);
        Check.due("a 7th that is bad", x.mark(0, 1, 1, 51), -2);
        Check.due("six there are", x.count(7), 6);
    }

    private static void forget() {
        Check.says("No ROSE (0), NOTES (1), MARKS (2): how many there were. BAD.");
        EarwigPost x = Given.full();
        Check.due("forget(3)", x.forget(3), -2);
        Check.due("forget(-1)", x.forget(-1), -2);
        Check.due("forget(0)", x.forget(0), 5);
        Check.due("forget(0) again", x.forget(0), 0);
        Check.due("notes are there", x.count(6), 6);
        Check.due("forget(1)", x.forget(1), 6);
        Check.due("forget(1) again", x.forget(1), 0);
        Check.due("marks are there", x.count(7), 6);
        Check.due("forget(2)", x.forget(2), 6);
        Check.due("forget(2) again", x.forget(2), 0);
        Check.due("any set fits", x.sent(0, 0), 64);
        Check.due("any kind of flower", x.is(0), 63);
        Check.due("any kind of sleeper", x.kinds(0), 63);
        Check.due("eight may be undone", x.count(8), 8);
        Check.due("of a new object", new EarwigPost().forget(0), 0);
    }

    private static void kinds() {
        Check.says("WHAT: KINDS of SLEEPERS (bits) by which all MARKS of one are so.");
        EarwigPost x = Given.told("sleeper0 0;sleeper1 0;");
        Check.due("kinds(2)", x.kinds(2), -2);
        Check.due("kinds(-1)", x.kinds(-1), -2);
        Check.due("no mark", x.kinds(0), 63);
        x.mark(0, 20, 0, 42);
        Check.due("42 of 20: an actress", x.kinds(0), 32);
        Check.due("the mark is not of 1", x.kinds(1), 63);
        x.mark(0, 0, 0, 1);
        Check.due("no kind", x.kinds(0), 0);
        x.mark(1, 0, 9, 0);
        Check.due("0 of 0 is of any kind", x.kinds(1), 63);
        x.mark(1, 4, 3, 0);
        Check.due("0 of 4 with wool 3: deaf, lady", x.kinds(1), 2 + 8);
        x.mark(1, 3, 0, 0);
        Check.due("0 of 3: lady", x.kinds(1), 8);
    }

    private static void ask() {
        Check.says("ASK: 10 x and c (x 0 .. 20, c 0 .. 9) by which the most of these KINDS that BELIEVE alike are fewest; "
            + "of like ones the least; none: no KIND.");
        EarwigPost x = Given.told("sleeper0 0;sleeper0 9;sleeper0 0;");
        Check.due("ask(3)", x.ask(3), -2);
        Check.due("ask(-1)", x.ask(-1), -2);
        Check.due("no mark", x.ask(0), 10);
        x.mark(0, 6, 0, 6);
        Check.due("plain", x.kinds(0), 1);
        Check.due("one kind", x.ask(0), 0);
        x.mark(0, 6, 0, 7);
        Check.due("no kind", x.ask(0), -1);
        x.mark(1, 5, 0, 5);
        Check.due("plain, clerk: by 6, whatever his wool", x.ask(1), 60);
        x.mark(2, 4, 0, 2);
        Check.due("deaf, lady: by 2", x.ask(2), 20);
        x.forget(2);
        x.mark(2, 1, 0, 0);
        x.mark(2, 1, 1, 0);
        Check.due("deaf, lady again", x.kinds(2), 2 + 8);
        x.forget(2);
        x.mark(1, 0, 0, 0);
        Check.due("any kind: two alike at the least", x.ask(1), 10);
    }

    private static void senders() {
        Check.says("SENDERS: how many (k = NONE), the k-th. -5: not so many. BAD: -10: alike a, b, k below -1, too.");
        EarwigPost x = Given.told("flower0 9 0;flower0 9 0;");
        Check.due("alike", x.senders(0, 0, -1), -10);
        Check.due("alike, the other", x.senders(1, 1, 0), -10);
        Check.due("k -2", x.senders(0, 1, -2), -10);
        Check.due("k least of all", x.senders(0, 1, Integer.MIN_VALUE), -10);
        Check.due("senders(2, 1, -1)", x.senders(2, 1, -1), -10);
        Check.due("senders(0, 2, -1)", x.senders(0, 2, -1), -10);
        Check.due("senders(-1, 1, -1)", x.senders(-1, 1, -1), -10);
        Check.due("senders(0, -1, -1)", x.senders(0, -1, -1), -10);
        Check.due("each counts as BAD", x.status(0), 8);

        Check.says("to each what is BELIEVED of it tonight (nobody there: 0), less 2, if both are on one");
        duePairs(x, 30, 1, 54);
        // to each 1 on pillow 0, -1 if both are there
        duePairs(Given.told("sleeper0 0;flower0 1 5;flower0 1 5;"), 10, 1, 50);

        Check.says("pairs 10 i and j that rest (neither would get more on another PILLOW)");
        // to each 2 on pillow 0, 0 if both are there, as elsewhere
        duePairs(Given.told("sleeper0 0;flower0 2 0;flower0 2 0;"), 11, 0, 50);
        // to each 3 on pillow 0, 1 if both are there
        duePairs(Given.told("sleeper0 0;flower0 3 0;flower0 3 0;"), 1, 0, 0);
        duePairs(Given.told("sleeper0 0;swap0 5;flower0 3 0;flower0 3 0;"), 1, 55, 55);
        // to 0 only 1 on pillow 5, to 1 as much as 9: it stays whoever is there, and 0 rests elsewhere
        duePairs(Given.told("sleeper0 0;swap0 5;flower0 1 0;flower0 9 0;"), 5, 5, 45);

        Check.says("how many; the k-th (rising)");
        x = Given.told("sleeper0 0;flower0 1 5;flower0 1 5;");
        int[] pairs = {1, 2, 3, 4, 5, 10, 20, 30, 40, 50};
        for (int k = 0; k < pairs.length; k++) {
            Check.due("senders(0, 1, " + k + ")", x.senders(0, 1, k), pairs[k]);
        }
        x = Given.told("sleeper0 0;swap0 5;flower0 9 0;flower0 1 0;");
        int[] swapped = {50, 51, 52, 53, 54};
        for (int k = 0; k < swapped.length; k++) {
            Check.due("a is loud: senders(0, 1, " + k + ")", x.senders(0, 1, k), swapped[k]);
            Check.due("b is loud: senders(1, 0, " + k + ")", x.senders(1, 0, k), 5 + 10 * k);
        }
        Check.due("where they are sent stays", x.about(0, 2), 0);

        Check.says("-5: not so many.");
        Check.due("k as many as there are", x.senders(0, 1, 5), -5);
        Check.due("k greatest of all", x.senders(0, 1, Integer.MAX_VALUE), -5);
        Check.due("that is not refused", x.status(0) + x.status(1) + x.status(2), 0);
    }

    private static void duePairs(EarwigPost x, int many, int first, int last) {
        Check.due("how many", x.senders(0, 1, -1), many);
        Check.due("the first", x.senders(0, 1, 0), first);
        Check.due("the last", x.senders(0, 1, many - 1), last);
        Check.due("one more", x.senders(0, 1, many), -5);
    }

    private static void slips() {
        Check.says("SLIPS are THE FRACTION: 1. BAD.");
        EarwigPost x = Given.told("sleeper0 0;flower0 9 0;");
        Check.due("slips(0, 11)", x.slips(0, 11), -2);
        Check.due("slips(0, -1)", x.slips(0, -1), -2);
        Check.due("slips(1, 0)", x.slips(1, 0), -2);
        Check.due("slips(-1, 0)", x.slips(-1, 0), -2);
        dueFraction(x, 0, 1);
        Check.due("slips(0, 1)", x.slips(0, 1), 1);
        dueFraction(x, 81, 10);

        Check.says("by c of 10 (0 .. 10) each FLOWER, apart, comes to the next PILLOW (behind 5 comes 0) tonight");
        dueMean("sleeper0 0;flower0 9 5;", 0, 0, 1);
        dueMean("sleeper0 0;flower0 9 5;", 1, 9, 10);
        dueMean("sleeper0 0;flower0 9 5;", 10, 9, 1);
        dueMean("sleeper0 0;flower0 9 1;", 10, 0, 1);
        dueMean("sleeper0 0;swap0 5;flower0 9 4;", 10, 9, 1);
        dueMean("sleeper0 0;swap0 5;flower0 9 0;", 10, 0, 1);
        dueMean("sleeper0 0;swap0 5;flower0 9 5;", 10, 0, 1);
        dueMean("sleeper0 0;swap0 5;flower0 9 5;", 0, 9, 1);
        dueMean("sleeper0 0;flower0 9 0;flower0 4 5;", 3, 15, 2);
        dueMean("sleeper1 0;flower0 1 0;flower0 1 5;", 5, 0, 1);
        dueMean("sleeper0 0;flower4 9 0;flower0 4 0;nights1;", 0, 4, 1);

        Check.says("lowest terms, below above 0");
        dueMean("sleeper0 0;", 7, 0, 1);
        dueMean("sleeper0 0;flower0 1 0;", 0, 1, 1);
        int[] above = {1, 9, 4, 7, 3, 1, 2, 3, 1, 1, 0};
        int[] below = {1, 10, 5, 10, 5, 2, 5, 10, 5, 10, 1};
        for (int c = 0; c <= 10; c++) {
            dueMean("sleeper0 0;flower0 1 0;", c, above[c], below[c]);
        }
        dueMean("sleeper0 0;flower0 5 0;", 2, 4, 1);
        dueMean("sleeper5 0;flower2 9 0;flower2 9 0;flower2 9 0;flower2 9 0;flower2 9 0;flower2 9 0;", 0, 228, 1);
    }

    private static void dueMean(String items, int c, int above, int below) {
        EarwigPost x = Given.told(items);
        Check.due("slips(0, " + c + ") of '" + items + "'", x.slips(0, c), 1);
        dueFraction(x, above, below);
    }

    private static void dueFraction(EarwigPost x, int above, int below) {
        Check.due("above", x.part(0), above);
        Check.due("below", x.part(1), below);
    }

    private static void decades() {
        Check.says("DECADES by a SEED (0 .. 999999), n (0 .. 60) NIGHTS");
        EarwigPost x = Given.told("sleeper5 0;sleeper5 0;sleeper5 0;sleeper5 0;sleeper5 0;");
        x.sleeper(5);
        for (int f = 0; f < 6; f++) {
            x.flower(0, 9, 0);
        }
        Check.due("decades(-1, 0)", x.decades(-1, 0), -2);
        Check.due("decades(1000000, 0)", x.decades(1000000, 0), -2);
        Check.due("decades(0, -1)", x.decades(0, -1), -2);
        Check.due("decades(0, 61)", x.decades(0, 61), -2);
        long before = x.digest();
        // by seed 999999: 4 to 2, 2 to 5, 1 to 3, 1 to 1, 4 to 2, 5 to 1, 5 to 5, 5 to 4
        int[] due = {0, 2, 3, 4, 5, 5, 5, 5, 6};
        for (int n = 0; n < due.length; n++) {
            Check.due("decades(999999, " + n + ")", x.decades(999999, n), due[n]);
        }
        Check.due("decades(999999, 60)", x.decades(999999, 60), 6);
        Check.due("decades(0, 0)", x.decades(0, 0), 0);
        // by seed 0: 0 to 0, 0 to 3, 4 to 0, 1 to 2, 0 to 2, 1 to 1
        int[] byNone = {0, 1, 2, 2, 3, 3, 4};
        for (int n = 0; n < byNone.length; n++) {
            Check.due("decades(0, " + n + ")", x.decades(0, n), byNone[n]);
        }
        Check.due("nothing is changed", x.digest(), before);
        Check.due("nobody", new EarwigPost().decades(999999, 60), 0);
        x = Given.told("sleeper0 0;flower0 1 0;nights20;");
        Check.due("who does it ahead of none", x.decades(999999, 0), 1);

        Check.says("by 6 left over (not there: none)");
        x = Given.told("sleeper5 0;sleeper5 0;sleeper5 0;sleeper5 0;sleeper5 0;flower0 9 0;");
        x.sleeper(5);
        // by seed 999999 flower 0 is the 9th to be sent, to 4
        Check.due("eight that are not there", x.decades(999999, 8), 1);
        Check.due("the 9th is there", x.decades(999999, 9), 2);

        Check.says("FLOWER X by 65536 (cut), by 6 left over (not there: none), is sent to PILLOW X by 1048576 (cut), "
            + "by 6 left over");
        // by seed 501379 X is 1605 times 1048576: flower 0 to 3
        x = Given.told("sleeper5 0;swap0 3;flower0 9 5;");
        Check.due("nothing is left over", x.decades(501379, 1), 1);
        // by seed 899870 X is one less than 193 times 1048576: flower 3 to 0
        x = Given.told("sleeper5 0;flower0 1 5;flower0 1 5;flower0 1 5;flower0 9 5;");
        Check.due("as much as can be is left over", x.decades(899870, 1), 1);
    }

    public static void main(String[] args) {
        rose();
        sent();
        tell();
        note();
        is();
        look();
        mark();
        forget();
        kinds();
        ask();
        senders();
        slips();
        decades();
        Check.end();
    }
}

/** Objects to begin a test with; the dearest takes some 190 calls of the 512 for which an object is promised. */
final class Given {
    private Given() {
    }

    /** An object with the office that these items tell (office itself goes ahead of them). */
    static EarwigPost told(String items) {
        EarwigPost x = new EarwigPost();
        Check.holds("'" + items + "' can be read", Check.readText(x, "office;" + items) > 0);
        x.clear();
        return x;
    }

    /** As many nights go by as told, also more than one call may let go by. */
    static EarwigPost inNight(int night) {
        EarwigPost x = new EarwigPost();
        for (int gone = 0; gone < night; gone += 60) {
            x.nights(Math.min(60, night - gone));
        }
        return x;
    }

    /** Nothing more goes in here: six of each, five roses, the text, eight to undo; image 0 is kept, image 1 is none. */
    static EarwigPost full() {
        EarwigPost x = new EarwigPost();
        String items = "office;sleeper0 0;sleeper1 0;sleeper2 0;sleeper3 0;sleeper4 0;sleeper5 0;"
            + "flower0 9 0;flower1 8 1;flower2 7 2;flower3 6 3;flower4 5 4;";
        Check.due("items of a full one", Check.readText(x, items + " ".repeat(150 - items.length())), 12);
        x.flower(5, 4, 5);
        for (int k = 0; k < 6; k++) {
            x.note(k, 3, k, 5);
            x.mark(k, 9, 1, 4);
        }
        for (int k = 0; k < 5; k++) {
            x.rose(k, k, 9);
        }
        x.slips(0, 3);
        x.image(0);
        x.wool(1, 2);
        x.nights(2);
        x.sends(0, 5);
        x.swaps(1, 2);
        x.wool(2, 1);
        x.nights(1);
        x.sends(3, 0);
        x.swaps(5, 0);
        return x;
    }
}

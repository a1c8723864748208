/** Promises 34 to 39: the fraction, images, status, what is counted, the digest. */
final class KeptTest {
    private static void part() {
        Check.part("promise 34");
        EarwigPost x = new EarwigPost();
        Check.due("part(0)", x.part(0), 0);
        Check.due("part(1)", x.part(1), 1);
        Check.due("part(-1)", x.part(-1), -2);
        Check.due("part(2)", x.part(2), -2);
        x.sleeper(0);
        x.flower(0, 3, 0);
        x.slips(0, 4);
        Check.due("above", x.part(0), 9);
        Check.due("below", x.part(1), 5);
        Check.due("status(0)", x.status(0), 2);
    }

    private static void images() {
        Check.part("promises 35 and 36");
        EarwigPost x = new EarwigPost();
        Check.due("image(-1)", x.image(-1), -2);
        Check.due("image(2)", x.image(2), -2);
        Check.due("from(-1)", x.from(-1), -2);
        Check.due("from(2)", x.from(2), -2);
        Check.due("from(0)", x.from(0), -3);
        Check.due("from(1)", x.from(1), -3);
        x.sleeper(1);
        x.sleeper(2);
        x.flower(0, 9, 0);
        x.flower(1, 2, 1);
        x.nights(2);
        x.wool(1, 3);
        x.swaps(0, 4);
        x.sends(0, 4);
        x.rose(0, 1, 2);
        x.note(1, 2, 3, 4);
        x.mark(1, 2, 3, 4);
        long before = x.digest();
        Check.due("image(0)", x.image(0), 1);
        Check.due("from(1) still", x.from(1), -3);
        x.sends(1, 5);
        x.nights(5);
        x.rose(1, 1, 1);
        x.forget(1);
        x.mark(0, 1, 1, 1);
        x.sleeper(5);
        Check.due("image(1)", x.image(1), 1);
        long later = x.digest();
        x.office();
        Check.due("from(0)", x.from(0), 1);
        Check.due("all as it was", x.digest(), before);
        Check.due("what may be undone, too", x.count(8), 4);
        Check.due("undo() of sends", x.undo(), 2);
        Check.due("sent to", x.about(0, 2), 0);
        x.undo();
        Check.due("undo() of wool", x.undo(), 2);
        Check.due("wool", x.of(1, 2), 0);
        Check.due("undo() of nights", x.undo(), 0);
        Check.due("mind", x.of(0, 3), 0);
        Check.due("from(1)", x.from(1), 1);
        Check.due("all as it was later", x.digest(), later);
        Check.due("from(0) again", x.from(0), 1);
        Check.due("an image is not changed by what came", x.digest(), before);
        x.type('a');
        x.slips(0, 0);
        x.sleeper(9);
        x.image(0);
        Check.due("the text is not kept", x.clear(), 1);
        x.slips(1, 3);
        x.sleeper(9);
        long above = x.part(0);
        long below = x.part(1);
        x.from(0);
        Check.due("the text stays", x.count(9), 0);
        Check.due("the fraction stays, above", x.part(0), above);
        Check.due("the fraction stays, below", x.part(1), below);
        Check.due("status stays", x.status(0), 6);
        Check.due("status(1) stays", x.status(1), 3);
    }

    private static void status() {
        Check.part("promise 37");
        EarwigPost x = new EarwigPost();
        Check.due("status(-1)", x.status(-1), -1);
        Check.due("counts as bad", x.status(0), 1);
        Check.due("status(3)", x.status(3), -1);
        Check.due("counts as bad, too", x.status(0), 2);
        x.sleeper(-1);
        x.pillows(5, 5);
        x.senders(0, 0, 0);
        x.part(2);
        x.count(10);
        Check.due("each counts", x.status(0), 7);
        x.undo();
        x.from(0);
        x.swaps(0, 1);
        Check.due("status(1)", x.status(1), 3);
        x.sleeper(0);
        x.wool(0, 0);
        x.flower(0, 1, 0);
        x.sends(0, 0);
        Check.due("status(1) again", x.status(1), 5);
        for (int k = 0; k < 7; k++) {
            x.sleeper(0);
            x.flower(0, 1, 0);
            x.rose(0, 0, 0);
            x.note(0, 1, 0, 0);
            x.mark(0, 0, 0, 0);
        }
        Check.due("status(2)", x.status(2), 2 + 2 + 2 + 1 + 1);
        for (int k = 0; k < 152; k++) {
            x.type(1);
        }
        Check.due("status(2) again", x.status(2), 10);
        Check.due("a fault", x.read(), -10);
        x.wool(0, 9);
        Check.due("never", x.when(0), -1);
        Check.due("no flower makes him do it", x.send(0, 1), -1);
        Check.due("not so many", x.senders(0, 1, 99), -5);
        Check.due("none of them is refused", x.status(0) + x.status(1) + x.status(2), 22);
    }

    private static void count() {
        Check.part("promise 38");
        EarwigPost x = new EarwigPost();
        x.sleeper(0);
        x.sleeper(0);
        x.sleeper(5);
        x.flower(0, 9, 0);
        x.flower(0, 9, 2);
        x.nights(2);
        x.wool(0, 4);
        x.nights(1);
        x.nights(1);
        x.rose(0, 0, 0);
        x.note(0, 1, 0, 0);
        x.note(0, 1, 0, 0);
        x.mark(0, 0, 0, 0);
        x.mark(0, 0, 0, 0);
        x.mark(0, 0, 0, 0);
        x.type(1);
        x.type(1);
        int[] due = {3, 2, 4, 2, 28 + 80, 1, 2, 3, 4, 2};
        for (int what = 0; what <= 9; what++) {
            Check.due("count(" + what + ")", x.count(what), due[what]);
        }
        Check.due("count(-1)", x.count(-1), -2);
        Check.due("count(10)", x.count(10), -2);
        x.undo();
        Check.due("count(8) behind undo", x.count(8), 3);
        Check.due("count(3) behind undo", x.count(3), 2);
        x.undo();
        Check.due("count(3) behind two", x.count(3), 1);
    }

    private static void digest() {
        Check.part("promise 39");
        EarwigPost x = new EarwigPost();
        Check.due("digest() at first", x.digest(), Check.mixed(0, 0, 0, 0, 0, 0, 0, 0, 0, 0, 0, 1));
        x.sleeper(4);
        x.sleeper(2);
        x.flower(3, 9, 0);
        x.flower(5, 7, 1);
        x.flower(1, 2, 5);
        x.swaps(0, 5);
        x.wool(1, 6);
        x.nights(2);
        x.rose(1, 33, 44);
        x.rose(0, 2, 150);
        x.note(2, 9, 88, 11);
        x.mark(1, 20, 7, 14);
        x.type(32);
        x.slips(0, 3);
        // the clerk on pillow 5 has 4 a night of the lily; the politician with wool 6 has 6 of the sealed 11, then 1 of 4
        Check.due("digest()", x.digest(), Check.mixed(2, 3, 2, 0, 15, 2, 1, 1, 3, 1,
            4, 5, 0, 8, 2, 1, 6, 7, 3, 9, 0, 5, 7, 1, 1, 2, 5,
            1, 33, 44, 0, 2, 150, 2, 9, 88, 11, 1, 20, 7, 14, 14, 5));
        Check.due("digest() changes nothing", x.digest(), x.digest());
    }

    public static void main(String[] args) {
        part();
        images();
        status();
        count();
        digest();
        Check.end();
    }
}

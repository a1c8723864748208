import java.util.ArrayList;
import java.util.List;

/** The edges that the document names in promises 34 to 39, sentence by sentence. */
final class KeptEdgesTest {
    private static void part() {
        Check.says("THE FRACTION: above (0), below (1). BAD.");
        EarwigPost x = new EarwigPost();
        Check.due("part(2)", x.part(2), -2);
        Check.due("part(-1)", x.part(-1), -2);

        Check.says("THE FRACTION is 0 by 1 at first");
        Check.due("above", x.part(0), 0);
        Check.due("below", x.part(1), 1);
    }

    private static void image() {
        Check.says("An IMAGE is kept: 1. BAD.");
        EarwigPost x = new EarwigPost();
        Check.due("image(2)", x.image(2), -2);
        Check.due("image(-1)", x.image(-1), -2);
        Check.due("image(0)", x.image(0), 1);
        x.sleeper(3);
        Check.due("image(0) again", x.image(0), 1);
        Check.due("image(1)", x.image(1), 1);
        x.office();
        Check.due("from(0)", x.from(0), 1);
        Check.due("the later one is kept", x.count(0), 1);

        Check.says("It goes on from an IMAGE: 1. BAD; NO: none was kept.");
        EarwigPost y = new EarwigPost();
        Check.due("from(2)", y.from(2), -2);
        Check.due("from(-1)", y.from(-1), -2);
        Check.due("from(0), none was kept", y.from(0), -3);
        Check.due("from(1), none was kept", y.from(1), -3);
        y.image(1);
        Check.due("from(0), another was kept", y.from(0), -3);
        y.sleeper(0);
        y.flower(0, 1, 0);
        y.nights(2);
        Check.due("from(1)", y.from(1), 1);
        Check.due("an empty office was kept", y.count(0) + y.count(1) + y.count(2) + y.count(8), 0);
        Check.due("from(1) again", y.from(1), 1);
        y.sleeper(0);
        y.office();
        y.read();
        Check.due("from(1) behind office and read", y.from(1), 1);
    }

    private static void whatImagesKeep() {
        Check.says("IMAGES 0, 1 keep all but them, THE TEXT, THE FRACTION and STATUS");
        EarwigPost x = Given.full();
        x.image(1);
        x.office();
        x.clear();
        x.type(32);
        x.sleeper(0);
        x.flower(0, 9, 0);
        x.slips(0, 1);
        x.sleeper(6);
        x.undo();
        x.image(0);
        long small = x.digest();
        x.slips(0, 2);
        x.type(32);
        x.sleeper(-1);
        Check.due("from(1)", x.from(1), 1);
        Check.due("the text is as it was", x.count(9), 2);
        Check.due("the fraction is as it was, above", x.part(0), 36);
        Check.due("the fraction is as it was, below", x.part(1), 5);
        Check.due("status is as it was, BAD", x.status(0), 2);
        Check.due("status is as it was, NO", x.status(1), 1);
        // minds by hand: 18, 10, 33, 0, 10, 40
        int[] due = {6, 6, 3, 2, 111, 5, 6, 6, 8};
        for (int what = 0; what <= 8; what++) {
            Check.due("count(" + what + ")", x.count(what), due[what]);
        }
        Check.due("from(0)", x.from(0), 1);
        x.clear();
        x.type(32);
        x.slips(0, 1);
        Check.due("all of the other one", x.digest(), small);

        Check.says("IMAGES 0, 1 keep all but them");
        x.nights(1);
        x.image(1);
        x.from(0);
        Check.due("from(0) brings image 0", x.count(2), 0);
        x.from(1);
        Check.due("image 1 is the later one still", x.count(2), 1);
    }

    private static void whatMayBeUndone() {
        Check.says("what may be undone they keep; it goes on from one");
        EarwigPost x = Given.told("sleeper0 0;");
        for (int c = 1; c <= 8; c++) {
            x.wool(0, c);
        }
        x.image(0);
        x.undo();
        x.undo();
        x.image(1);
        x.from(0);
        Check.due("eight of image 0", x.count(8), 8);
        x.wool(0, 9);
        for (int c = 8; c >= 1; c--) {
            x.undo();
            Check.due("wool undone in image 0", x.of(0, 2), c);
        }
        Check.due("no more in image 0", x.undo(), -3);
        x.from(1);
        Check.due("six of image 1", x.count(8), 6);
        for (int c = 5; c >= 0; c--) {
            x.undo();
            Check.due("wool undone in image 1", x.of(0, 2), c);
        }
        Check.due("no more in image 1", x.undo(), -3);
        x.from(0);
        Check.due("image 0 is as it was", x.count(8), 8);
        Check.due("wool of image 0", x.of(0, 2), 8);
    }

    private static void status() {
        Check.says("STATUS: BAD (0), NO (1), FULL (2). -1: another what (counts as BAD).");
        EarwigPost x = new EarwigPost();
        Check.due("status(3)", x.status(3), -1);
        Check.due("status(0)", x.status(0), 1);
        Check.due("status(-1)", x.status(-1), -1);
        Check.due("status(0) then", x.status(0), 2);
        Check.due("status(9)", x.status(Integer.MAX_VALUE), -1);
        Check.due("status(0) at last", x.status(0), 3);
        Check.due("none as NO", x.status(1), 0);
        Check.due("none as FULL", x.status(2), 0);
        Check.due("asking is not refused", x.status(0), 3);
    }

    private static void count() {
        Check.says("8 that may be undone, 9 bytes of THE TEXT. BAD.");
        EarwigPost x = Given.full();
        Check.due("count(10)", x.count(10), -2);
        Check.due("count(-1)", x.count(-1), -2);
        Check.due("status(0)", x.status(0), 2);
        int[] due = {6, 6, 3, 2, 111, 5, 6, 6, 8, 150};
        for (int what = 0; what <= 9; what++) {
            Check.due("count(" + what + ") of a full one", x.count(what), due[what]);
        }

        Check.says("3 who do it, 4 MINDS of all together");
        x = Given.told("sleeper0 0;sleeper0 0;sleeper0 0;flower0 5 0;flower0 4 1;nights4;");
        Check.due("one at 20, one at 16", x.count(3), 1);
        Check.due("together", x.count(4), 36);
        x = Given.told("sleeper5 0;sleeper5 0;sleeper5 0;sleeper5 0;sleeper5 0;flower0 9 0;flower0 9 1;nights99;");
        Check.due("999 each", x.count(4), 2 * 999);
    }

    private static void digest() {
        Check.says("h = 1609; then h = 31 h + v for each v: count(0) to count(9); of SLEEPERS KIND, PILLOW, WOOL, MIND; "
            + "of FLOWERS KIND, WORD, PILLOW; of ROSE i, n, x; of NOTES f, w, n, x; of MARKS i, x, c, y; THE FRACTION.");
        EarwigPost x = Given.full();
        List<Long> v = new ArrayList<>();
        for (int what = 0; what <= 9; what++) {
            v.add((long) x.count(what));
        }
        for (int i = 0; i < 6; i++) {
            for (int what = 0; what <= 3; what++) {
                v.add((long) x.of(i, what));
            }
        }
        for (int f = 0; f < 6; f++) {
            for (int what = 0; what <= 2; what++) {
                v.add((long) x.about(f, what));
            }
        }
        for (long k = 0; k < 5; k++) {
            v.addAll(List.of(k, k, 9L));
        }
        for (long k = 0; k < 6; k++) {
            v.addAll(List.of(k, 3L, k, 5L));
        }
        for (long k = 0; k < 6; k++) {
            v.addAll(List.of(k, 9L, 1L, 4L));
        }
        v.addAll(List.of(x.part(0), x.part(1)));
        Check.due("of a full one", x.digest(), Check.mixed(v.stream().mapToLong(Long::longValue).toArray()));
        Check.due("of a new one", new EarwigPost().digest(), Check.mixed(0, 0, 0, 0, 0, 0, 0, 0, 0, 0, 0, 1));
        x = new EarwigPost();
        x.type(1);
        x.nights(1);
        x.undo();
        x.undo();
        Check.due("refusals, images, what the text says are not in it", x.digest(),
            Check.mixed(0, 0, 0, 0, 0, 0, 0, 0, 0, 1, 0, 1));
    }

    public static void main(String[] args) {
        part();
        image();
        whatImagesKeep();
        whatMayBeUndone();
        status();
        count();
        digest();
        Check.end();
    }
}

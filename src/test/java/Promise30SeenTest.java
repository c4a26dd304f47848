/** Promise 30: seen. */
public final class Promise30SeenTest {
    private static Check check;

    public static void main(String[] args) {
        check = new Check("Promise30SeenTest");
        bounds();
        tenAtMost();
        refused();
        alikeCountsTwice();
        noAct();
        check.end();
    }

    /** "the i-th WORD (0 .. 19)"; "NONE: no such MAN, i out of bounds" */
    private static void bounds() {
        int[] places = {-2, -1, 0, 1, 18, 19, 20, 21};
        for (int i : places) {
            for (int man = -1; man <= 2; man++) {
                GallopDispatch x = Check.ride("d;d");
                boolean there = i >= 0 && i <= 19 && man >= 0 && man <= 1;
                check.due("seen(" + i + ", " + man + ", true)", x.seen(i, man, true), there ? 1 : -1);
                check.due("how many", x.count(8), there ? 1 : 0);
                check.due("and was not", x.seen(i, man, false), there ? 2 : -1);
            }
        }
        for (int wild : Refusal.wildNumbers()) {
            GallopDispatch x = Check.ride("d;d");
            check.due("seen(" + wild + ", 0, true)", x.seen(wild, 0, true), -1);
            check.due("seen(0, " + wild + ", true)", x.seen(0, wild, true), -1);
            check.due("how many", x.count(8), 0);
        }
        check.due("without a ride", new GallopDispatch().seen(0, 0, true), -1);
        // A WORD there will be no room for may be told of all the same.
        check.due("beyond the room", Check.ride("sw1;d").seen(19, 0, false), 1);
        GallopDispatch six = Check.ride("d;d;d;d;d;d");
        check.due("the sixth", six.seen(0, 5, true), 1);
        check.due("a seventh", six.seen(0, 6, true), -1);
    }

    /** "SEEN (10 at most)"; "there are ten" */
    private static void tenAtMost() {
        GallopDispatch x = Check.ride("d;d");
        for (int k = 1; k <= 12; k++) {
            check.due("seen " + k, x.seen(k, k % 2, k % 3 == 0), k <= 10 ? k : -1);
            check.due("how many", x.count(8), Math.min(10, k));
        }
        Check.tell(x, "d", 0);
        check.due("from the start with another ride", x.seen(0, 0, true), 1);
    }

    private static GallopDispatch withTen() {
        GallopDispatch x = Rich.made();
        while (x.count(8) < 10) {
            x.seen(19, 0, false);
        }
        return x;
    }

    private static void refused() {
        Refusal.due(check, "seen(-1, 0)", Rich::made, x -> x.seen(-1, 0, true), -1, Refusal.NO_STATUS);
        Refusal.due(check, "seen(20, 0)", Rich::made, x -> x.seen(20, 0, true), -1, Refusal.NO_STATUS);
        Refusal.due(check, "seen(0, -1)", Rich::made, x -> x.seen(0, -1, true), -1, Refusal.NO_STATUS);
        Refusal.due(check, "seen(0, 3)", Rich::made, x -> x.seen(0, 3, false), -1, Refusal.NO_STATUS);
        // By the eleventh nobody would fit any more.
        Refusal.due(check, "an eleventh", Promise30SeenTest::withTen, x -> x.seen(19, 0, true), -1,
            Refusal.NO_STATUS);
    }

    private static void alikeCountsTwice() {
        GallopDispatch x = Check.ride("d");
        check.due("once", x.seen(0, 0, true), 1);
        check.due("twice", x.seen(0, 0, true), 2);
        check.due("and the contrary", x.seen(0, 0, false), 3);
        check.due("by which nothing fits", x.who(1, -1), 0);
    }

    /** No ACT: not UNDONE, not of an IMAGE; it changes nothing else. */
    private static void noAct() {
        GallopDispatch x = Rich.made();
        int acts = x.count(10);
        x.seen(1, 1, true);
        check.due("acts", x.count(10), acts);
        x.undo();
        check.due("not undone", x.count(8), 3);
        x.back();
        check.due("not of the image", x.count(8), 3);
        x.days(1);
        check.due("days leave it", x.count(8), 3);
    }
}

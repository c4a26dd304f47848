/** Promise 7: man. */
public final class Promise07ManTest {
    private static Check check;

    public static void main(String[] args) {
        check = new Check("Promise07ManTest");
        withoutItems();
        leastAndGreatest();
        asTheyAreNow();
        noSuchOnes();
        exactlyThatException();
        check.end();
    }

    private static void manIs(String why, GallopDispatch x, int man, int... due) {
        for (int what = 0; what < 5; what++) {
            check.due(why + ": man(" + man + ", " + what + ")", Check.man(x, man, what), due[what]);
        }
    }

    /** "x where he STANDS (5), v VOICE (5), e DEEDS (3), r RANK (1)"; GLORY 0 at first. */
    private static void withoutItems() {
        manIs("a bare d", Check.ride("d"), 0, 5, 5, 3, 1, 0);
        manIs("x alone", Check.ride("dx6"), 0, 6, 5, 3, 1, 0);
        manIs("v alone", Check.ride("dv6"), 0, 5, 6, 3, 1, 0);
        manIs("e alone", Check.ride("de6"), 0, 5, 5, 6, 1, 0);
        manIs("r alone", Check.ride("dr6"), 0, 5, 5, 3, 6, 0);
        GallopDispatch x = Check.ride("dx9v9e9r9;d");
        manIs("a bare d behind a full one", x, 1, 5, 5, 3, 1, 0);
    }

    private static void leastAndGreatest() {
        GallopDispatch x = Check.ride("sl30;dx0v0e0r0;dx30v9e9r9;dx29v8e8r8;dx1v1e1r1;d;dr2e3v4x5");
        manIs("the least", x, 0, 0, 0, 0, 0, 0);
        manIs("the greatest", x, 1, 30, 9, 9, 9, 0);
        manIs("one less", x, 2, 29, 8, 8, 8, 0);
        manIs("one more", x, 3, 1, 1, 1, 1, 0);
        manIs("the sixth", x, 5, 5, 4, 3, 2, 0);
    }

    private static void asTheyAreNow() {
        GallopDispatch x = Check.ride("sl12p1w3m0c20;dx2v6e2r7;dx9v1e0r0");
        Check.hold(x, "y:r");
        x.move(0, 5);
        x.voice(0, 1);
        x.deed(0);
        x.days(2);
        manIs("after acts", x, 0, 5, 1, 3, 7, 6);
        manIs("the other one", x, 1, 9, 1, 0, 0, 0);
        x.undo();
        manIs("a day undone", x, 0, 5, 1, 3, 7, 3);
    }

    /** "NoSuchElementException: no such ones" */
    private static void noSuchOnes() {
        int[][] none = {{-1, 0}, {3, 0}, {0, -1}, {0, 5}, {3, 5}, {-1, -1}, {2, 5}, {2, -1}, {6, 4}};
        for (int[] one : none) {
            Refusal.due(check, "man(" + one[0] + ", " + one[1] + ")", Rich::made,
                x -> Check.man(x, one[0], one[1]), Check.THROWN, Refusal.NO_STATUS);
        }
        GallopDispatch x = Rich.made();
        for (int wild : Refusal.wildNumbers()) {
            check.due("man(" + wild + ", 0)", Check.man(x, wild, 0), Check.THROWN);
            check.due("man(0, " + wild + ")", Check.man(x, 0, wild), Check.THROWN);
        }
        GallopDispatch six = Check.ride("d;d;d;d;d;d");
        check.due("the sixth", Check.man(six, 5, 4), 0);
        check.due("a seventh", Check.man(six, 6, 4), Check.THROWN);
        GallopDispatch none2 = new GallopDispatch();
        for (int what = -1; what <= 5; what++) {
            check.due("without a ride", Check.man(none2, 0, what), Check.THROWN);
        }
        for (int k = 0; k < 5; k++) {
            int what = k;
            Refusal.onlyAsks(check, "man(2, " + what + ")", Rich::made, y -> Check.man(y, 2, what));
        }
    }

    /** Neither a class below it nor one above it. */
    private static void exactlyThatException() {
        Class<?> thrown = null;
        try {
            new GallopDispatch().man(0, 0);
        } catch (RuntimeException e) {
            thrown = e.getClass();
        }
        check.due("the exception's class", thrown == java.util.NoSuchElementException.class, true);
    }
}

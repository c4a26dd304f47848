/** Promise 13: deed. */
public final class Promise13DeedTest {
    private static Check check;

    public static void main(String[] args) {
        check = new Check("Promise13DeedTest");
        nineAtMost();
        noSuchMan();
        nine();
        forNothing();
        anAct();
        check.end();
    }

    /** "he does a DEED (9 at most)" */
    private static void nineAtMost() {
        GallopDispatch x = Check.ride("de0;de9;de8");
        for (int k = 1; k <= 11; k++) {
            check.due("deed " + k, x.deed(0), k <= 9 ? k : -1);
            check.due("deeds", x.man(0, 2), Math.min(9, k));
            check.due("status(2)", x.status(2), Math.max(0, k - 9));
        }
        check.due("a tenth", x.deed(1), -1);
        check.due("the ninth", x.deed(2), 9);
        check.due("a tenth", x.deed(2), -1);
    }

    private static void noSuchMan() {
        Refusal.due(check, "deed(-1)", Rich::made, x -> x.deed(-1), -1, 0);
        Refusal.due(check, "deed(3)", Rich::made, x -> x.deed(3), -1, 0);
        for (int wild : Refusal.wildNumbers()) {
            GallopDispatch x = Rich.made();
            check.due("deed(" + wild + ")", x.deed(wild), -1);
            check.due("status(0)", x.status(0), 2);
        }
        GallopDispatch six = Check.ride("d;d;d;d;d;d");
        check.due("the sixth", six.deed(5), 4);
        check.due("a seventh", six.deed(6), -1);
    }

    private static GallopDispatch withNine() {
        GallopDispatch x = Rich.made();
        for (int k = 0; k < 5; k++) {
            x.deed(1);
        }
        return x;
    }

    private static void nine() {
        check.due("nine", withNine().man(1, 2), 9);
        Refusal.due(check, "a tenth", Promise13DeedTest::withNine, x -> x.deed(1), -1, 2);
    }

    private static void forNothing() {
        GallopDispatch x = Rich.withCoins(0);
        check.due("without a coin", x.deed(2), 1);
        check.due("coins", x.rule(4), 0);
    }

    private static void anAct() {
        GallopDispatch x = Check.ride("de5;de5");
        x.deed(0);
        check.due("acts", x.count(10), 1);
        check.due("the other's", x.man(1, 2), 5);
        check.due("undone", x.undo(), 0);
        check.due("deeds", x.man(0, 2), 5);
    }
}

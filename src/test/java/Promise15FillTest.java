/** Promise 15: fill. */
public final class Promise15FillTest {
    private static Check check;

    public static void main(String[] args) {
        check = new Check("Promise15FillTest");
        oneLess();
        justEnough();
        noSuchFord();
        nothingToFill();
        tooFew();
        ofSeveralTheFirst();
        anAct();
        check.end();
    }

    /** "DEPTH one less (a COIN)" */
    private static void oneLess() {
        GallopDispatch x = Check.ride("sc30;d;fx1d9;fx2d1;fx3d0");
        for (int depth = 8; depth >= 0; depth--) {
            check.due("filled", x.fill(0), depth);
            check.due("depth", x.ford(0, 1), depth);
        }
        check.due("coins", x.rule(4), 21);
        check.due("nothing is left", x.fill(0), -1);
        check.due("the last of it", x.fill(1), 0);
        check.due("nothing is left", x.fill(1), -1);
        check.due("nothing was there", x.fill(2), -1);
        check.due("depth", x.ford(2, 1), 0);
        check.due("coins", x.rule(4), 20);
        check.due("status(2)", x.status(2), 3);
    }

    private static void justEnough() {
        for (int coins = 0; coins <= 2; coins++) {
            GallopDispatch x = Check.ride("sc" + coins + ";d;fd5");
            check.due("for " + coins, x.fill(0), coins < 1 ? -1 : 4);
            check.due("coins", x.rule(4), Math.max(0, coins - 1));
            check.due("status(3)", x.status(3), coins < 1 ? 1 : 0);
        }
    }

    private static void noSuchFord() {
        Refusal.due(check, "fill(-1)", Rich::made, x -> x.fill(-1), -1, 0);
        Refusal.due(check, "fill(3)", Rich::made, x -> x.fill(3), -1, 0);
        for (int wild : Refusal.wildNumbers()) {
            GallopDispatch x = Rich.made();
            check.due("fill(" + wild + ")", x.fill(wild), -1);
            check.due("status(0)", x.status(0), 2);
        }
        GallopDispatch none = Check.ride("d");
        check.due("no ford at all", none.fill(0), -1);
        check.due("status(0)", none.status(0), 1);
        GallopDispatch five = Check.ride("d;fx1;fx2;fx3;fx4;fx5");
        check.due("the fifth", five.fill(4), 2);
        check.due("a sixth", five.fill(5), -1);
    }

    private static void nothingToFill() {
        Refusal.due(check, "a ford of no depth", Rich::made, x -> x.fill(2), -1, 2);
    }

    private static void tooFew() {
        Refusal.due(check, "for none", () -> Rich.withCoins(0), x -> x.fill(0), -1, 3);
    }

    private static void ofSeveralTheFirst() {
        Refusal.due(check, "no such ford, too few", () -> Rich.withCoins(0), x -> x.fill(3), -1, 0);
        Refusal.due(check, "nothing to fill, too few", () -> Rich.withCoins(0), x -> x.fill(2), -1, 2);
    }

    private static void anAct() {
        GallopDispatch x = Check.ride("sc9;d;fd5;fx3d5");
        x.fill(0);
        check.due("acts", x.count(10), 1);
        check.due("the other one", x.ford(1, 1), 5);
        check.due("undone", x.undo(), 0);
        check.due("depth", x.ford(0, 1), 5);
        check.due("coins", x.rule(4), 9);
    }
}

/** Promise 16: rain. */
public final class Promise16RainTest {
    private static Check check;

    public static void main(String[] args) {
        check = new Check("Promise16RainTest");
        noughtToNine();
        noRide();
        outOfBounds();
        itIsSo();
        forNothing();
        anAct();
        check.end();
    }

    /** "MUD is set (0 .. 9)": what it was. */
    private static void noughtToNine() {
        for (int before = 0; before <= 9; before++) {
            for (int v = -1; v <= 10; v++) {
                GallopDispatch x = Check.ride("sm" + before + ";d");
                boolean set = v >= 0 && v <= 9 && v != before;
                check.due("rain(" + v + ") on " + before, x.rain(v), set ? before : -1);
                check.due("mud", x.rule(3), set ? v : before);
                check.due("status(1)", x.status(1), v < 0 || v > 9 ? 1 : 0);
                check.due("status(2)", x.status(2), v == before ? 1 : 0);
            }
        }
    }

    private static void noRide() {
        GallopDispatch x = new GallopDispatch();
        check.due("rain(0)", x.rain(0), -1);
        check.due("rain(10)", x.rain(10), -1);
        check.due("rain(-1)", x.rain(-1), -1);
        check.due("status(0)", x.status(0), 3);
        check.due("status(1)", x.status(1), 0);
        check.due("status(2)", x.status(2), 0);
    }

    private static void outOfBounds() {
        Refusal.due(check, "rain(-1)", Rich::made, x -> x.rain(-1), -1, 1);
        Refusal.due(check, "rain(10)", Rich::made, x -> x.rain(10), -1, 1);
        for (int wild : Refusal.wildNumbers()) {
            GallopDispatch x = Rich.made();
            check.due("rain(" + wild + ")", x.rain(wild), -1);
            check.due("status(1)", x.status(1), 2);
        }
    }

    private static void itIsSo() {
        Refusal.due(check, "the mud there is", Rich::made, x -> x.rain(3), -1, 2);
    }

    private static void forNothing() {
        GallopDispatch x = Rich.withCoins(0);
        check.due("without a coin", x.rain(9), 3);
        check.due("coins", x.rule(4), 0);
    }

    private static void anAct() {
        GallopDispatch x = Check.ride("sm4;d");
        x.rain(0);
        check.due("acts", x.count(10), 1);
        check.due("undone", x.undo(), 0);
        check.due("mud", x.rule(3), 4);
        check.due("and again", x.rain(0), 4);
    }
}

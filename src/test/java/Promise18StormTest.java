/** Promise 18: storm. */
public final class Promise18StormTest {
    private static Check check;

    public static void main(String[] args) {
        check = new Check("Promise18StormTest");
        noughtToNine();
        wild();
        withoutRide();
        refused();
        noAct();
        check.end();
    }

    /** "STORM (0 .. 9; 0 at first)"; "False: out of bounds, it is so" */
    private static void noughtToNine() {
        for (int before = 0; before <= 9; before++) {
            for (int v = -1; v <= 10; v++) {
                GallopDispatch x = new GallopDispatch();
                check.due("storm at first", x.count(7), 0);
                if (before > 0) {
                    check.due("storm(" + before + ")", x.storm(before), true);
                }
                boolean set = v >= 0 && v <= 9 && v != before;
                check.due("storm(" + v + ") on " + before, x.storm(v), set);
                check.due("storm then", x.count(7), set ? v : before);
            }
        }
    }

    private static void wild() {
        GallopDispatch x = new GallopDispatch();
        for (int v : Refusal.wildNumbers()) {
            check.due("storm(" + v + ")", x.storm(v), false);
        }
        check.due("storm", x.count(7), 0);
    }

    private static void withoutRide() {
        GallopDispatch x = new GallopDispatch();
        check.due("storm(5)", x.storm(5), true);
        Check.tell(x, "d", 0);
        check.due("it stays with a ride", x.count(7), 5);
    }

    private static void refused() {
        Refusal.due(check, "storm(-1)", Rich::made, x -> x.storm(-1) ? 1 : 0, 0, Refusal.NO_STATUS);
        Refusal.due(check, "storm(10)", Rich::made, x -> x.storm(10) ? 1 : 0, 0, Refusal.NO_STATUS);
        Refusal.due(check, "storm(4), it is so", Rich::made, x -> x.storm(4) ? 1 : 0, 0, Refusal.NO_STATUS);
        Refusal.due(check, "storm(0) at first", () -> Check.ride("d"), x -> x.storm(0) ? 1 : 0, 0,
            Refusal.NO_STATUS);
    }

    /** No ACT: not UNDONE, not kept by an IMAGE; no MUD by itself. */
    private static void noAct() {
        GallopDispatch x = Rich.made();
        int acts = x.count(10);
        x.storm(9);
        check.due("acts", x.count(10), acts);
        check.due("mud", x.rule(3), 3);
        x.undo();
        check.due("not undone", x.count(7), 9);
        x.back();
        check.due("not of the image", x.count(7), 9);
        x.days(3);
        check.due("days by hand have no storm", x.rule(3), 3);
    }
}

/** Promise 20: status. */
public final class Promise20StatusTest {
    private static Check check;

    public static void main(String[] args) {
        check = new Check("Promise20StatusTest");
        noSuchWhat();
        atFirst();
        countsEach();
        onlyActsCount();
        notUndone();
        check.end();
    }

    private static void statusIs(String why, GallopDispatch x, int... due) {
        for (int what = 0; what < 5; what++) {
            check.due(why + ": status(" + what + ")", x.status(what), due[what]);
        }
    }

    /** "NONE: no such what" */
    private static void noSuchWhat() {
        Refusal.due(check, "status(-1)", Rich::made, x -> x.status(-1), -1, Refusal.NO_STATUS);
        Refusal.due(check, "status(5)", Rich::made, x -> x.status(5), -1, Refusal.NO_STATUS);
        for (int wild : Refusal.wildNumbers()) {
            check.due("status(" + wild + ")", Rich.made().status(wild), -1);
        }
        check.due("the first", Rich.made().status(0), 1);
        check.due("the last", Rich.made().status(4), 0);
        Refusal.onlyAsks(check, "status(3)", Rich::made, x -> x.status(3));
    }

    private static void atFirst() {
        GallopDispatch x = new GallopDispatch();
        statusIs("a new object", x, 0, 0, 0, 0, 0);
        check.due("status(5)", x.status(5), -1);
        Check.tell(x, "d", 0);
        statusIs("a new ride", x, 0, 0, 0, 0, 0);
    }

    /** One more each time, of each sort by itself. */
    private static void countsEach() {
        GallopDispatch x = Check.ride("sc0;dv9e9;fd0");
        for (int k = 1; k <= 9; k++) {
            x.move(1, 1);
            x.voice(0, 10);
            x.deed(0);
            x.feedHorse(true);
            statusIs("round " + k, x, k, k, k, k, 0);
        }
        for (int k = 0; k < 17; k++) {
            x.days(k == 16 ? 39 : 60);
        }
        for (int k = 1; k <= 9; k++) {
            x.days(1);
            statusIs("on the last day", x, 9, 9, 9, 9, k);
        }
        // Far above nine of them, all in one sort.
        for (int k = 0; k < 300; k++) {
            x.deed(7);
        }
        statusIs("many", x, 309, 9, 9, 9, 9);
    }

    /** "how many ACTS were refused": what is no ACT has none, nor has YEARS. */
    private static void onlyActsCount() {
        GallopDispatch x = Check.ride("d");
        x.years(0, 1L);
        x.years(61, 1L);
        x.undo();
        x.back();
        x.storm(10);
        x.storm(0);
        x.law(7);
        x.seen(20, 0, true);
        x.seen(0, 9, true);
        x.end(99);
        x.text(7);
        x.text(0);
        x.fault(9);
        x.rule(9);
        x.ford(9, 9);
        x.heard(9, 9);
        x.stand(9, 9);
        x.pension(0, 1000, 0);
        x.game(0, 0, 0, 0, 0);
        x.odds(0, 101);
        x.ahead(0, 10000);
        x.log(9, 9);
        x.count(99);
        Check.man(x, 9, 9);
        statusIs("no acts", x, 0, 0, 0, 0, 0);
        check.due("what was done counts nowhere", x.deed(0), 4);
        statusIs("an act", x, 0, 0, 0, 0, 0);
    }

    /** "not UNDONE": nor by BACK, nor by another RIDE. */
    private static void notUndone() {
        GallopDispatch x = Check.ride("d");
        x.deed(0);
        x.image();
        x.deed(9);
        x.rain(10);
        statusIs("refused", x, 1, 1, 0, 0, 0);
        x.undo();
        statusIs("an act undone", x, 1, 1, 0, 0, 0);
        x.back();
        statusIs("back", x, 1, 1, 0, 0, 0);
        Check.tell(x, "d", 0);
        statusIs("another ride", x, 1, 1, 0, 0, 0);
        x.move(9, 9);
        statusIs("it goes on", x, 2, 1, 0, 0, 0);
    }
}

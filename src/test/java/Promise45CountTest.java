/** Promise 45: count. */
public final class Promise45CountTest {
    private static final int HIDDEN = -1000000;
    private static Check check;

    public static void main(String[] args) {
        check = new Check("Promise45CountTest");
        hiddenForOthers();
        ofANewObject();
        ofARichOne();
        leastAndGreatest();
        check.end();
    }

    /** "HIDDEN for others" */
    private static void hiddenForOthers() {
        Refusal.due(check, "count(-1)", Rich::made, x -> x.count(-1), HIDDEN, Refusal.NO_STATUS);
        Refusal.due(check, "count(11)", Rich::made, x -> x.count(11), HIDDEN, Refusal.NO_STATUS);
        for (int wild : Refusal.wildNumbers()) {
            check.due("count(" + wild + ")", Rich.made().count(wild), HIDDEN);
            check.due("count(" + wild + ")", new GallopDispatch().count(wild), HIDDEN);
        }
        check.due("the constant", GallopDispatch.HIDDEN, HIDDEN);
        check.due("the other one", GallopDispatch.NONE, -1);
        for (int k = 0; k <= 10; k++) {
            int what = k;
            Refusal.onlyAsks(check, "count(" + what + ")", Rich::made, x -> x.count(what));
        }
    }

    private static void countsAre(String why, GallopDispatch x, int... due) {
        for (int what = 0; what < due.length; what++) {
            check.due(why + ": count(" + what + ")", x.count(what), due[what]);
        }
    }

    private static void ofANewObject() {
        countsAre("a new object", new GallopDispatch(), 0, 0, 0, 0, -1, 0, 0, 0, 0, 0, 0);
        countsAre("the least ride", Check.ride("d"), 1, 0, 0, 0, -1, 0, 0, 0, 0, 0, 0);
    }

    private static void ofARichOne() {
        countsAre("a rich one", Rich.made(), 3, 3, 2, 9, 1, 7, 42, 4, 2, 7, 15);
    }

    private static void leastAndGreatest() {
        GallopDispatch x = Check.ride("sl30p1w20m0;d;d;d;d;d;d;fx0;fx1;fx2;fx3;fx4");
        Check.hold(x, "y:n>4?9");
        for (int k = 0; k < 3; k++) {
            Check.hold(x, "y:r");
        }
        x.law(0);
        x.storm(9);
        for (int k = 0; k < 11; k++) {
            x.seen(k, 0, true);
        }
        for (int k = 0; k < 17; k++) {
            x.days(k == 16 ? 39 : 60);
        }
        Check.feed(x, " ".repeat(240));
        countsAre("all at their greatest", x, 6, 5, 4, 240, 0, 999, 9999, 9, 10, 60, 40);
        x.law(3);
        check.due("the last law", x.count(4), 3);
        x.law(-1);
        check.due("none", x.count(4), -1);
        // GLORY of all: six of them together.
        GallopDispatch y = Check.ride("sl5p1w20m0;dx0;dx1;dx2;dx3;dx4;dx5");
        Check.hold(y, "y:d=0?9");
        y.days(7);
        check.due("six by seven", y.count(6), 42);
    }
}

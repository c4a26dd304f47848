/** Promise 34: unfair. */
public final class Promise34UnfairTest {
    private static Check check;

    public static void main(String[] args) {
        check = new Check("Promise34UnfairTest");
        outOfBounds();
        howFar();
        sixMen();
        allNought();
        check.end();
    }

    /** "NONE: no RIDE, out of bounds" */
    private static void outOfBounds() {
        Refusal.due(check, "unfair(-1)", Rich::made, x -> x.unfair(-1), -1, Refusal.NO_STATUS);
        Refusal.due(check, "unfair(1000)", Rich::made, x -> x.unfair(1000), -1, Refusal.NO_STATUS);
        for (int wild : Refusal.wildNumbers()) {
            check.due("unfair(" + wild + ")", Rich.made().unfair(wild), -1);
        }
        check.due("without a ride", new GallopDispatch().unfair(0), -1);
        check.due("of nought", Rich.made().unfair(0), 0);
        check.due("of 999", Rich.made().unfair(999) >= 0, true);
        Refusal.onlyAsks(check, "unfair(100)", Rich::made, x -> x.unfair(100));
        Refusal.onlyAsks(check, "unfair(999)", Rich::made, x -> x.unfair(999));
    }

    /** "how far both are from each other, of all MEN together": each cut by itself. */
    private static void howFar() {
        GallopDispatch x = Check.ride("sl5p1w20m0;dr1e0;dr2e9");
        Check.hold(x, "y:r=1?9");
        check.due("all to the one, all to the other", x.unfair(999), 1998);
        check.due("of one", x.unfair(1), 2);
        GallopDispatch y = Check.ride("sl5p1w20m0;dr1e3;dr2e2;dr3e0");
        Check.hold(y, "y:n<3&r=1?9;y:n>2&n<5&r=2?9");
        check.due("alike", y.unfair(999), 0);
        y.deed(2);
        // Mentions 3 2 0 of 5, deeds 3 2 1 of 6: of 10 that is 6 4 0 and 5 3 1.
        check.due("of ten", y.unfair(10), 3);
        // Of 999: 599 399 0 and 499 333 166.
        check.due("of 999", y.unfair(999), 100 + 66 + 166);
    }

    private static void sixMen() {
        GallopDispatch x = Check.ride("sl5p1w20m0;dx0e9;dx1e9;dx2e9;dx3e9;dx4e9;dx5e0");
        Check.hold(x, "y:d=0?9");
        // Of 90: 15 each by mentions, 18 each but the last by deeds.
        check.due("six", x.unfair(90), 5 * 3 + 15);
        Check.tell(x, "sl5p1w20m0;dx0e1;dx1e1", 0);
        check.due("none of another ride's men", x.unfair(90), 0);
    }

    private static void allNought() {
        GallopDispatch x = Check.ride("sm0;de0;de0");
        Check.hold(x, "y:0");
        check.due("neither mentions nor deeds", x.unfair(999), 0);
        x.deed(1);
        check.due("deeds alone", x.unfair(999), 999);
        x.undo();
        Check.hold(x, "y:9");
        check.due("mentions alone", x.unfair(999), 999);
    }
}

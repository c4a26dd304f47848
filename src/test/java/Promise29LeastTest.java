/** Promise 29: least. */
public final class Promise29LeastTest {
    private static Check check;

    public static void main(String[] args) {
        check = new Check("Promise29LeastTest");
        noSuchMan();
        noughtToNine();
        withNone();
        amongOthers();
        check.end();
    }

    private static void leastIs(String why, String ride, String law, int man, int due) {
        GallopDispatch x = Check.ride(ride);
        Check.hold(x, law);
        check.due(why, x.least(man), due);
    }

    /** "NONE: .. no such MAN" */
    private static void noSuchMan() {
        Refusal.due(check, "least(-1)", Rich::made, x -> x.least(-1), -1, Refusal.NO_STATUS);
        Refusal.due(check, "least(3)", Rich::made, x -> x.least(3), -1, Refusal.NO_STATUS);
        for (int wild : Refusal.wildNumbers()) {
            check.due("least(" + wild + ")", Rich.made().least(wild), -1);
        }
        check.due("without a ride", new GallopDispatch().least(0), -1);
        Refusal.onlyAsks(check, "least(0)", Rich::made, x -> x.least(0));
        Refusal.onlyAsks(check, "least(2)", Rich::made, x -> x.least(2));
    }

    /** "the least VOICE (0 .. 9) with which he is MENTIONED", whatever he has now */
    private static void noughtToNine() {
        for (int v = 0; v <= 9; v++) {
            for (int now = 0; now <= 9; now += 3) {
                leastIs("only with " + v, "sm0;dv" + now, "y:v=" + v + "?9", 0, v);
                leastIs("above " + v, "sm0;dv" + now, "y:v>" + v + "?9", 0, v == 9 ? -1 : v + 1);
                leastIs("up to " + v, "sm0;dv" + now, "y:v<" + (v + 1) + "?9", 0, 0);
            }
        }
        // Without a LAW: at 5 he is heard VOICE less 1.
        check.due("without a law", Check.ride("sp2m0;dx4v9r0").least(0), 2);
        check.due("without a law, of rank 9", Check.ride("sp2m0;dx4v9r9").least(0), 0);
        check.due("off the pace", Check.ride("sp2m0;dx5v9r0").least(0), 3);
    }

    /** "NONE: with none" */
    private static void withNone() {
        leastIs("never heard", "sm0;dv9", "y:0", 0, -1);
        leastIs("only with ten", "sm0;dv9", "y:v=10?9", 0, -1);
        leastIs("never set down", "sl10p5m1;dv9;d", "y:1", 0, -1);
    }

    private static void amongOthers() {
        leastIs("louder than a lower one", "sm0;dv5;dv0", "y:v", 1, 6);
        leastIs("as loud as a higher one", "sm0;dv0;dv5", "y:v", 0, 5);
        leastIs("louder than nine, and higher", "sm0;dv9;dv0", "y:v", 1, -1);
        leastIs("louder than nine, but lower", "sm0;dv0;dv9", "y:v", 0, 9);
        // In the mud: heard 1 or 2 it is the other one; heard 3 himself.
        leastIs("no slip", "sm1;dv0;dv0", "y:v", 0, 3);
        leastIs("the other's slip is his word", "sm1;dv1;dv0", "y:v", 1, 0);
        leastIs("room for the other alone", "sl10p5w1m0;dr1;dr2", "y:n=0&r=1?9;y:n=5&r=2?9", 1, -1);
        leastIs("room for him, too", "sl10p5w2m0;dr1;dr2", "y:n=0&r=1?9;y:n=5&r=2?9", 1, 0);
        leastIs("no room", "sl10p5w1m0;dv9;dv0", "y:n=0&v>8?9;y:n>0?v", 1, -1);
    }
}

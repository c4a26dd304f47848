/** Promise 24: mentions. */
public final class Promise24MentionsTest {
    private static Check check;

    public static void main(String[] args) {
        check = new Check("Promise24MentionsTest");
        noSuchMan();
        howOften();
        bySlips();
        check.end();
    }

    /** "NONE: no such MAN" */
    private static void noSuchMan() {
        Refusal.due(check, "mentions(-1)", Rich::made, x -> x.mentions(-1), -1, Refusal.NO_STATUS);
        Refusal.due(check, "mentions(3)", Rich::made, x -> x.mentions(3), -1, Refusal.NO_STATUS);
        for (int wild : Refusal.wildNumbers()) {
            check.due("mentions(" + wild + ")", Rich.made().mentions(wild), -1);
        }
        check.due("without a ride", new GallopDispatch().mentions(0), -1);
        for (int men = 1; men <= 6; men++) {
            GallopDispatch x = Check.ride("s" + ";d".repeat(men));
            Check.hold(x, "y:0");
            check.due("the last of " + men, x.mentions(men - 1), 0);
            check.due("one behind", x.mentions(men), -1);
        }
        Refusal.onlyAsks(check, "mentions(0)", Rich::made, x -> x.mentions(0));
    }

    /** "how often he is SET DOWN": none, and as many as there is room for. */
    private static void howOften() {
        GallopDispatch x = Check.ride("sl30p1w20m0;dr0;dr1;dr2");
        Check.hold(x, "y:n<3&r=2?9;y:n>4&r=1?9");
        check.due("of 0", x.mentions(0), 0);
        check.due("of 1", x.mentions(1), 17);
        check.due("of 2", x.mentions(2), 3);
        Check.hold(x, "y:9");
        check.due("all twenty", x.mentions(0), 20);
        Check.hold(x, "y:0");
        check.due("none", x.mentions(0), 0);
        check.due("none", x.mentions(1), 0);
        GallopDispatch one = Check.ride("sl30p1w1m0;d");
        Check.hold(one, "y:9");
        check.due("one", one.mentions(0), 1);
    }

    private static void bySlips() {
        GallopDispatch x = Check.ride("sl10p5m1;dr1;dr2;dr0");
        Check.hold(x, "y:n=0&r=2?2;y:n=5&r=1?3;y:n=10&r=2?1");
        check.due("himself, once", x.mentions(0), 1);
        check.due("only heard, not set down", x.mentions(1), 0);
        check.due("not heard, set down twice", x.mentions(2), 2);
    }
}

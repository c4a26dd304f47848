/** Promise 39: span. */
public final class Promise39SpanTest {
    private static Check check;

    public static void main(String[] args) {
        check = new Check("Promise39SpanTest");
        noSuchMan();
        allSteps();
        heardAtAll();
        check.end();
    }

    private static void spanIs(String why, String ride, String law, int man, int due) {
        GallopDispatch x = Check.ride(ride);
        Check.hold(x, law);
        check.due(why, x.span(man), due);
    }

    /** "NONE: no such MAN" */
    private static void noSuchMan() {
        Refusal.due(check, "span(-1)", Rich::made, x -> x.span(-1), -1, Refusal.NO_STATUS);
        Refusal.due(check, "span(3)", Rich::made, x -> x.span(3), -1, Refusal.NO_STATUS);
        for (int wild : Refusal.wildNumbers()) {
            check.due("span(" + wild + ")", Rich.made().span(wild), -1);
        }
        check.due("without a ride", new GallopDispatch().span(0), -1);
        spanIs("the sixth", "d;d;d;d;d;d", "y:9", 5, 21);
        spanIs("a seventh", "d;d;d;d;d;d", "y:9", 6, -1);
        Refusal.onlyAsks(check, "span(0)", Rich::made, x -> x.span(0));
        Refusal.onlyAsks(check, "span(2)", Rich::made, x -> x.span(2));
    }

    /** "at how many STEPS (all, with any PACE)" */
    private static void allSteps() {
        for (int pace = 1; pace <= 5; pace++) {
            spanIs("least length", "sl5p" + pace + ";d", "y:9", 0, 6);
            spanIs("greatest length", "sl30p" + pace + ";d", "y:9", 0, 31);
            spanIs("only at the start", "sl30p" + pace + ";d", "y:n=0?9", 0, 1);
            spanIs("only at the end", "sl30p" + pace + ";d", "y:n=30?9", 0, 1);
            spanIs("only at 7", "sl30p" + pace + ";dx7", "y:d=0?9", 0, 1);
        }
        spanIs("room does not count", "sl30w1;d", "y:9", 0, 31);
        check.due("without a law", Check.ride("sl30p1;dx15v9r0").span(0), 17);
        check.due("without a law, by 2", Check.ride("sl30p2;dx15v9r0").span(0), 15);
        check.due("without a law, at the start", Check.ride("sl30p1;dx0v9r0").span(0), 9);
    }

    /** HEARD is above 0, be another one louder or not. */
    private static void heardAtAll() {
        spanIs("nought", "d", "y:0", 0, 0);
        spanIs("below nought", "d", "y:0-1", 0, 0);
        spanIs("one", "d", "y:1", 0, 21);
        spanIs("the other is louder", "dr1;dr9", "y:r", 0, 21);
        spanIs("fords", "sl10;d;fx0d1;fx10d9;fx5d0", "y:9", 0, 9);
    }
}

/** Promise 5: text. */
public final class Promise05TextTest {
    private static Check check;

    public static void main(String[] args) {
        check = new Check("Promise05TextTest");
        howManyMen();
        tapeIsEmptyThen();
        whatIsGone();
        whatStays();
        nothingOfTheOldRideLingers();
        numbersOfLaws();
        lawsLookedAtBefore();
        fourLaws();
        aLawLeavesTheRide();
        noSuchSort();
        faults();
        check.end();
    }

    private static void howManyMen() {
        for (int men = 1; men <= 6; men++) {
            GallopDispatch x = new GallopDispatch();
            check.due(men + " men", Check.tell(x, "s" + ";d".repeat(men) + ";f", 0), men);
            check.due("count of men", x.count(0), men);
            check.due("the last of them", Check.man(x, men - 1, 0), 5);
            check.due("none behind him", Check.man(x, men, 0), Check.THROWN);
        }
        check.due("none", Check.tell(new GallopDispatch(), "s;f", 0), -1);
        check.due("seven", Check.tell(new GallopDispatch(), "s" + ";d".repeat(7), 0), -1);
        for (int fords = 0; fords <= 5; fords++) {
            GallopDispatch x = new GallopDispatch();
            StringBuilder text = new StringBuilder("d");
            for (int k = 0; k < fords; k++) {
                text.append(";fx").append(2 * k);
            }
            check.due("one man", Check.tell(x, text.toString(), 0), 1);
            check.due("count of fords", x.count(1), fords);
            check.due("the last of them", x.ford(fords - 1, 0), fords == 0 ? -1 : 2 * (fords - 1));
            check.due("none behind it", x.ford(fords, 0), -1);
        }
    }

    /** "The TAPE (empty then)" */
    private static void tapeIsEmptyThen() {
        GallopDispatch x = new GallopDispatch();
        Check.feed(x, "d  ");
        check.due("a ride", x.text(0), 1);
        check.due("no bytes", x.count(3), 0);
        check.due("not told again", x.text(0), -1);
        check.due("the first ride stands", x.count(0), 1);
        check.due("fault of nothing", x.fault(0), 0);
        Check.feed(x, "y:1  ");
        check.due("a law", x.text(1), 0);
        check.due("no bytes", x.count(3), 0);
        check.due("not told again", x.text(1), -1);
        check.due("one law", x.count(2), 1);
        check.due("bytes come to the start again", x.feed(0x64000000, 0, 0, 0, 0), 1);
        check.due("fault", x.fault(0), -1);
    }

    /** "DAY 0; all that was of another one, SEEN, too, is gone" */
    private static void whatIsGone() {
        GallopDispatch x = Rich.made();
        check.due("another ride", Check.tell(x, "d", 0), 1);
        check.due("men", x.count(0), 1);
        check.due("fords", x.count(1), 0);
        check.due("the day", x.count(5), 0);
        check.due("glory", x.count(6), 0);
        check.due("seen", x.count(8), 0);
        check.due("lines of the log", x.count(9), 0);
        check.due("acts", x.count(10), 0);
        check.due("undo", x.undo(), -1);
        check.due("no image of this ride", x.back(), -1);
        for (int what = 0; what <= 2; what++) {
            check.due("log(0, " + what + ")", x.log(0, what), -1);
        }
        // The same TEXT again is another RIDE.
        GallopDispatch y = Rich.made();
        Check.tell(y, Rich.RIDE, 0);
        check.due("the day", y.count(5), 0);
        check.due("coins", y.rule(4), 3);
        check.due("mud", y.rule(3), 1);
        check.due("he stands where he did", y.man(1, 0), 7);
        check.due("no image of this one", y.back(), -1);
        check.due("nothing to undo", y.undo(), -1);
        check.due("ten may be seen again", seenTillFull(y), 10);
    }

    private static int seenTillFull(GallopDispatch x) {
        int seen = 0;
        for (int k = 0; k < 11; k++) {
            seen = Math.max(seen, x.seen(0, 0, true));
        }
        return seen;
    }

    /** ".. but LAWS, which holds, STORM, STATUS" */
    private static void whatStays() {
        GallopDispatch x = Rich.made();
        Check.tell(x, "sl12;dx6v6", 0);
        check.due("laws", x.count(2), 2);
        check.due("which holds", x.count(4), 1);
        check.due("heard by it", x.heard(0, 3), 3);
        check.due("heard by it, far off", x.heard(0, 2), 0);
        x.law(0);
        check.due("heard by the other", x.heard(0, 2), 2);
        check.due("storm", x.count(7), 4);
        for (int what = 0; what <= 3; what++) {
            check.due("status(" + what + ")", x.status(what), 1);
        }
    }

    private static void nothingOfTheOldRideLingers() {
        GallopDispatch x = Check.ride("sl30p5w20m9c99;dx30v9e9r9;dx30v9e9r9;fx30d9;fx29d9");
        x.days(1);
        Check.tell(x, "s;d;d;f", 0);
        int[] rules = {20, 2, 8, 2, 30};
        int[] man = {5, 5, 3, 1, 0};
        for (int what = 0; what < 5; what++) {
            check.due("rule(" + what + ")", x.rule(what), rules[what]);
            check.due("man(0, " + what + ")", x.man(0, what), man[what]);
            check.due("man(1, " + what + ")", x.man(1, what), man[what]);
        }
        check.due("the ford", x.ford(0, 0), 10);
        check.due("its depth", x.ford(0, 1), 3);
        check.due("no second one", x.ford(1, 0), -1);
        // A ride that goes wrong behind its first clauses leaves nothing either.
        Check.tell(x, "sl9p1;dx9v0;fx1d1;s", 0);
        check.due("length", x.rule(0), 20);
        check.due("pace", x.rule(1), 2);
        check.due("stands", x.man(0, 0), 5);
        check.due("the ford", x.ford(0, 0), 10);
        // Nor does a fault that was only looked for.
        Check.faultOf(x, "sl9p1w1m0c0;dx9v0e0r0;d;d;fx1d1", 0);
        check.due("length", x.rule(0), 20);
        check.due("men", x.count(0), 2);
        check.due("rank", x.man(0, 3), 1);
    }

    /** "a LAW: its number" */
    private static void numbersOfLaws() {
        GallopDispatch x = Check.ride("d");
        for (int k = 0; k < 4; k++) {
            check.due("law " + k, Check.tell(x, "y:" + (k + 5), 1), k);
            check.due("laws", x.count(2), k + 1);
            check.due("none holds by that", x.count(4), -1);
        }
        for (int k = 3; k >= 0; k--) {
            x.law(k);
            check.due("each is its own", x.heard(0, 0), k + 5);
        }
    }

    /** What was on the TAPE before, told or only looked at, is not in a LAW. */
    private static void lawsLookedAtBefore() {
        GallopDispatch x = Check.ride("dv7");
        for (int k = 0; k < 9; k++) {
            Check.faultOf(x, "y:v" + "+1-1".repeat(59), 1);
        }
        Check.hold(x, "y:v-3");
        check.due("a short one behind long ones", x.heard(0, 5), 4);
        Check.hold(x, "y:1;y:v=7?2;y:!v=1?3;y:5;y:9");
        Check.faultOf(x, "y:1;y:2;y:3", 1);
        Check.hold(x, "y:v=6?3");
        check.due("no clause of a longer one", x.heard(0, 5), 0);
        Check.faultOf(x, "y:!v=1?2", 1);
        Check.hold(x, "y:v-2");
        check.due("no sign of a longer one", x.heard(0, 5), 5);
        x.law(0);
        check.due("the first as it was", x.heard(0, 5), 4);
        x.law(1);
        check.due("the second as it was", x.heard(0, 5), 1);
        Check.faultOf(x, "y:8;y:8", 1);
        Check.tell(x, "y:8;", 1);
        check.due("a law that is only looked at changes none", x.heard(0, 5), 1);
    }

    /** "there are four LAWS": a third, a fourth, a fifth. */
    private static void fourLaws() {
        GallopDispatch x = Rich.made();
        check.due("a third", x.text(1), 2);
        Check.feed(x, "y:1");
        check.due("a fourth", x.text(1), 3);
        Check.feed(x, "y:2");
        check.due("a fifth", x.text(1), -1);
        check.due("four", x.count(2), 4);
        check.due("its tape stays", x.count(3), 3);
        check.due("and has no fault", x.fault(1), -1);
        Refusal.due(check, "a fifth law", Promise05TextTest::withFourLaws, y -> y.text(1), -1, Refusal.NO_STATUS);
        // With four LAWS a RIDE can still be told, and they stay.
        GallopDispatch z = withFourLaws();
        check.due("a ride", Check.tell(z, "d;d", 0), 2);
        check.due("four laws", z.count(2), 4);
        check.due("still no fifth", Check.tell(z, "y:7", 1), -1);
    }

    private static GallopDispatch withFourLaws() {
        GallopDispatch x = Rich.made();
        x.text(1);
        Check.tell(x, "y:9-d", 1);
        Check.feed(x, "y:v/2");
        return x;
    }

    private static void aLawLeavesTheRide() {
        GallopDispatch x = Rich.made();
        check.due("a law", x.text(1), 2);
        int[] due = {3, 3, 3, 0, 1, 7, 42, 4, 2, 7, 15};
        for (int what = 0; what < due.length; what++) {
            check.due("count(" + what + ")", x.count(what), due[what]);
        }
        check.due("the image stays", x.back(), 5);
    }

    private static void noSuchSort() {
        Refusal.due(check, "text(-1)", Rich::made, x -> x.text(-1), -1, Refusal.NO_STATUS);
        Refusal.due(check, "text(2)", Rich::made, x -> x.text(2), -1, Refusal.NO_STATUS);
        for (int sort : Refusal.wildNumbers()) {
            GallopDispatch x = Rich.made();
            check.due("text(" + sort + ")", x.text(sort), -1);
            check.due("bytes stay", x.count(3), 9);
        }
    }

    /** "NONE: a FAULT": nothing is changed, and the bytes stay. */
    private static void faults() {
        Refusal.due(check, "a law told as a ride", Rich::made, x -> x.text(0), -1, Refusal.NO_STATUS);
        String[] rides = {"", " ", "s", "d;", "sl12;dx13", "d;f;f", "d;d;d;d;d;d;d", "dx9v8e7r6;fx3d1;sl7p1w1m0c0"};
        for (String text : rides) {
            Refusal.due(check, "text(0) of '" + text + "'", () -> withTape(text), x -> x.text(0), -1,
                Refusal.NO_STATUS);
        }
        String[] laws = {"", "d", "y:v;", "y:v=1", "y:9;y:12345", "y:[[[[[[[1]]]]]]]"};
        for (String text : laws) {
            Refusal.due(check, "text(1) of '" + text + "'", () -> withTape(text), x -> x.text(1), -1,
                Refusal.NO_STATUS);
        }
        GallopDispatch x = withTape("d;s;s");
        check.due("refused", x.text(0), -1);
        x.end(3);
        check.due("told without its fault", x.text(0), 1);
    }

    private static GallopDispatch withTape(String text) {
        GallopDispatch x = Rich.made();
        x.end(0);
        Check.feed(x, text);
        return x;
    }
}

/** Promise 43: image. */
public final class Promise43ImageTest {
    private static Check check;

    public static void main(String[] args) {
        check = new Check("Promise43ImageTest");
        noRide();
        theDay();
        insteadOfTheOneAhead();
        changesNothingElse();
        check.end();
    }

    /** "NONE: no RIDE" */
    private static void noRide() {
        GallopDispatch x = new GallopDispatch();
        check.due("image", x.image(), -1);
        check.due("back", x.back(), -1);
        Check.tell(x, "d", 0);
        check.due("what was refused is none of this ride", x.back(), -1);
        check.due("image", x.image(), 0);
    }

    private static void theDay() {
        GallopDispatch x = Check.ride("d");
        check.due("day 0", x.image(), 0);
        x.days(1);
        check.due("day 1", x.image(), 1);
        x.undo();
        check.due("day 0 again", x.image(), 0);
        check.due("the last day", Rich.onDay(999).image(), 999);
    }

    /** "An IMAGE (instead of the one ahead)" */
    private static void insteadOfTheOneAhead() {
        GallopDispatch x = Check.ride("sm0;d");
        x.image();
        x.rain(5);
        x.image();
        x.rain(9);
        x.back();
        check.due("the later one", x.rule(3), 5);
        x.rain(7);
        x.back();
        check.due("the first is gone", x.rule(3), 5);
        x.back();
        check.due("however often", x.rule(3), 5);
    }

    /** It is no ACT and keeps what there is; asked again it is the same. */
    private static void changesNothingElse() {
        GallopDispatch x = Rich.made();
        int[] due = {3, 3, 2, 9, 1, 7, 42, 4, 2, 7, 15};
        check.due("image", x.image(), 7);
        for (int what = 0; what < due.length; what++) {
            check.due("count(" + what + ")", x.count(what), due[what]);
        }
        check.due("acts can still be undone", x.undo(), 14);
        // An IMAGE of what it is an IMAGE of already changes nothing at all.
        Refusal.onlyAsks(check, "image again", () -> {
            GallopDispatch y = Rich.made();
            y.image();
            return y;
        }, y -> y.image());
    }
}

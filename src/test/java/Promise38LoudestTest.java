/** Promise 38: loudest. */
public final class Promise38LoudestTest {
    private static Check check;

    public static void main(String[] args) {
        check = new Check("Promise38LoudestTest");
        noSuchStep();
        nobody();
        ofSeveralTheLowest();
        anyStep();
        check.end();
    }

    private static GallopDispatch ride(String text, String law) {
        GallopDispatch x = Check.ride(text);
        Check.hold(x, law);
        return x;
    }

    /** "NONE: .. no such STEP, no RIDE" */
    private static void noSuchStep() {
        Refusal.due(check, "loudest(-1)", Rich::made, x -> x.loudest(-1), -1, Refusal.NO_STATUS);
        Refusal.due(check, "loudest(13)", Rich::made, x -> x.loudest(13), -1, Refusal.NO_STATUS);
        for (int wild : Refusal.wildNumbers()) {
            check.due("loudest(" + wild + ")", Rich.made().loudest(wild), -1);
        }
        for (int length = 5; length <= 30; length += 5) {
            GallopDispatch x = ride("sl" + length + ";d", "y:9");
            check.due("ahead of the road", x.loudest(-1), -1);
            check.due("its first step", x.loudest(0), 0);
            check.due("its last step", x.loudest(length), 0);
            check.due("behind the road", x.loudest(length + 1), -1);
        }
        check.due("without a ride", new GallopDispatch().loudest(0), -1);
        Refusal.onlyAsks(check, "loudest(0)", Rich::made, x -> x.loudest(0));
        Refusal.onlyAsks(check, "loudest(7)", Rich::made, x -> x.loudest(7));
    }

    /** "(none: nobody)": HEARD 0 is not heard. */
    private static void nobody() {
        check.due("heard nought", ride("d;d", "y:0").loudest(3), -1);
        check.due("heard below nought", ride("d;d", "y:0-5").loudest(3), -1);
        check.due("heard one", ride("d;d", "y:1").loudest(3), 0);
        check.due("a ford", ride("d;d;fx3d1", "y:9").loudest(3), -1);
        check.due("a ford of no depth", ride("d;d;fx3d0", "y:9").loudest(3), 0);
    }

    private static void ofSeveralTheLowest() {
        check.due("as loud", ride("dr4;dr4", "y:r").loudest(3), 0);
        check.due("louder", ride("dr4;dr5", "y:r").loudest(3), 1);
        check.due("both held at nine", ride("dr1;dr9", "y:r+9").loudest(3), 0);
        check.due("of six", ride("dr1;dr2;dr3;dr4;dr5;dr6", "y:r").loudest(3), 5);
        check.due("two of six", ride("dr1;dr2;dr6;dr4;dr5;dr6", "y:r").loudest(3), 2);
    }

    /** Of any STEP, whatever the PACE; who is HEARD, not who would be SET DOWN. */
    private static void anyStep() {
        GallopDispatch x = ride("sl10p5m9;dx3;dx7", "y:d=0?1");
        for (int step = 0; step <= 10; step++) {
            check.due("loudest(" + step + ")", x.loudest(step), step == 3 ? 0 : step == 7 ? 1 : -1);
        }
        x.move(0, 8);
        check.due("gone", x.loudest(3), -1);
        check.due("there now", x.loudest(8), 0);
    }
}

/** Promise 40: nearest. */
public final class Promise40NearestTest {
    private static Check check;

    public static void main(String[] args) {
        check = new Check("Promise40NearestTest");
        noSuchStep();
        byWhereHeStands();
        ofSeveralTheLowest();
        check.end();
    }

    /** "NONE: no such STEP, no RIDE" */
    private static void noSuchStep() {
        Refusal.due(check, "nearest(-1)", Rich::made, x -> x.nearest(-1), -1, Refusal.NO_STATUS);
        Refusal.due(check, "nearest(13)", Rich::made, x -> x.nearest(13), -1, Refusal.NO_STATUS);
        for (int wild : Refusal.wildNumbers()) {
            check.due("nearest(" + wild + ")", Rich.made().nearest(wild), -1);
        }
        for (int length = 5; length <= 30; length += 5) {
            GallopDispatch x = Check.ride("sl" + length + ";d");
            check.due("ahead of the road", x.nearest(-1), -1);
            check.due("its first step", x.nearest(0), 0);
            check.due("its last step", x.nearest(length), 0);
            check.due("behind the road", x.nearest(length + 1), -1);
        }
        check.due("without a ride", new GallopDispatch().nearest(0), -1);
        Refusal.onlyAsks(check, "nearest(5)", Rich::made, x -> x.nearest(5));
    }

    private static void byWhereHeStands() {
        GallopDispatch x = Check.ride("sl30;dx20;dx0;dx30;dx11v0r0");
        int[] due = {1, 1, 1, 1, 1, 1, 3, 3, 3, 3, 3, 3, 3, 3, 3, 3, 0, 0, 0, 0, 0, 0, 0, 0, 0, 0, 2, 2, 2, 2, 2};
        for (int step = 0; step <= 30; step++) {
            check.due("nearest(" + step + ")", x.nearest(step), due[step]);
        }
        x.move(1, 15);
        check.due("as they stand now", x.nearest(14), 1);
        check.due("as they stand now", x.nearest(0), 3);
        // Whether he is HEARD does not count: a LAW, a FORD.
        GallopDispatch y = Check.ride("dx3;dx9;fx9d9");
        Check.hold(y, "y:0");
        check.due("unheard", y.nearest(9), 1);
    }

    /** "(of several the lowest, all)" */
    private static void ofSeveralTheLowest() {
        GallopDispatch x = Check.ride("sl10;dx2;dx6;dx6;dx2");
        check.due("between both", x.nearest(4), 0);
        check.due("one nearer", x.nearest(5), 1);
        check.due("one nearer", x.nearest(3), 0);
        check.due("the lowest of two there", x.nearest(10), 1);
        GallopDispatch y = Check.ride("sl10;dx6;dx2");
        check.due("between both", y.nearest(4), 0);
        check.due("the sixth", Check.ride("dx9;dx9;dx9;dx9;dx9;dx8").nearest(0), 5);
    }
}

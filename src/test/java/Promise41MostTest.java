/** Promise 41: most. */
public final class Promise41MostTest {
    private static Check check;

    public static void main(String[] args) {
        check = new Check("Promise41MostTest");
        noSuchWhat();
        bravest();
        famous();
        highest();
        deepest();
        check.end();
    }

    /** "NONE: no RIDE, no such what" */
    private static void noSuchWhat() {
        Refusal.due(check, "most(-1)", Rich::made, x -> x.most(-1), -1, Refusal.NO_STATUS);
        Refusal.due(check, "most(4)", Rich::made, x -> x.most(4), -1, Refusal.NO_STATUS);
        for (int wild : Refusal.wildNumbers()) {
            check.due("most(" + wild + ")", Rich.made().most(wild), -1);
        }
        for (int k = 0; k <= 3; k++) {
            int what = k;
            check.due("without a ride", new GallopDispatch().most(what), -1);
            Refusal.onlyAsks(check, "most(" + what + ")", Rich::made, x -> x.most(what));
        }
    }

    /** Of several the lowest, all of them. */
    private static void bravest() {
        check.due("one man", Check.ride("de0").most(0), 0);
        check.due("none has any", Check.ride("de0;de0").most(0), 0);
        check.due("the second", Check.ride("de0;de1").most(0), 1);
        check.due("alike", Check.ride("de9;de9").most(0), 0);
        check.due("the sixth", Check.ride("de8;de8;de8;de8;de8;de9").most(0), 5);
        GallopDispatch x = Check.ride("de3;de3;de2");
        x.deed(1);
        check.due("as it is now", x.most(0), 1);
        x.deed(0);
        check.due("alike again", x.most(0), 0);
        x.undo();
        check.due("undone", x.most(0), 1);
    }

    private static void famous() {
        GallopDispatch x = Check.ride("sl5p1w20m0;dr1;dr2;dr3");
        check.due("no glory so far", x.most(1), 0);
        Check.hold(x, "y:r=3?9");
        x.days(1);
        check.due("the third", x.most(1), 2);
        Check.hold(x, "y:r=2?9");
        x.days(1);
        check.due("the second has as much", x.most(1), 1);
        x.law(0);
        x.days(1);
        check.due("the third has more", x.most(1), 2);
        x.undo();
        check.due("undone", x.most(1), 1);
        check.due("not by rank, not by deeds", x.most(2), 2);
    }

    private static void highest() {
        check.due("one man", Check.ride("dr0").most(2), 0);
        check.due("alike", Check.ride("dr5;dr5").most(2), 0);
        check.due("the second", Check.ride("dr8;dr9").most(2), 1);
        check.due("the first", Check.ride("dr9;dr8").most(2), 0);
        check.due("two of three", Check.ride("dr0;dr9;dr9").most(2), 1);
        check.due("the sixth", Check.ride("dr1;dr1;dr1;dr1;dr1;dr2").most(2), 5);
    }

    /** "DEEPEST (3; NONE: there is no FORD)" */
    private static void deepest() {
        check.due("no ford", Check.ride("d").most(3), -1);
        check.due("one of no depth", Check.ride("d;fd0").most(3), 0);
        check.due("two of no depth", Check.ride("d;fx1d0;fx2d0").most(3), 0);
        check.due("alike", Check.ride("d;fx1d5;fx2d5").most(3), 0);
        check.due("the second", Check.ride("d;fx1d5;fx2d6").most(3), 1);
        check.due("the fifth", Check.ride("d;fx1d8;fx2d8;fx3d8;fx4d8;fx5d9").most(3), 4);
        GallopDispatch x = Check.ride("d;fx1d2;fx2d1");
        x.fill(0);
        check.due("alike now", x.most(3), 0);
        x.fill(0);
        check.due("the other now", x.most(3), 1);
        x.fill(1);
        check.due("none is left", x.most(3), 0);
    }
}

/** Promises 38 to 42: LOUDEST, SPAN, NEAREST, the most of each, AHEAD. */
public final class PlacesTest {
    public static void main(String[] args) {
        Check check = new Check("PlacesTest");
        loudest(check);
        span(check);
        nearest(check);
        most(check);
        ahead(check);
        check.end();
    }

    private static void loudest(Check check) {
        GallopDispatch x = Check.ride("sl10p5w1m9;dx2v4r0;dx4v4r0;dx9v3r0;fx3d1;fx9d0");
        int[] due = {-1, 0, 0, -1, 1, 1, -1, -1, -1, 2, -1};
        // Heard is voice less the way less 2: 0 from 1 to 3, 1 from 3 to 5, 2 at 9 alone.
        for (int step = 0; step <= 10; step++) {
            check.due("loudest(" + step + ")", x.loudest(step), due[step]);
        }
        check.due("loudest(11)", x.loudest(11), -1);
        check.due("loudest(-1)", x.loudest(-1), -1);
        x.fill(0);
        check.due("of several the lowest", x.loudest(3), 0);
    }

    private static void span(Check check) {
        GallopDispatch x = Check.ride("sl10p5w1m9;dx2v4r0;dx0v9r0;dx9v2r0;fx3d1");
        check.due("2 without the ford", x.span(0), 2);
        check.due("from 0 to 6 without the ford", x.span(1), 6);
        check.due("nowhere", x.span(2), 0);
        check.due("no such man", x.span(3), -1);
        check.due("no such man", x.span(-1), -1);
        x.fill(0);
        check.due("3", x.span(0), 3);
        check.due("the last step", Check.ride("sl10p1;dx10v1r0").span(0), 1);
        check.due("the first step", Check.ride("sl10p1;dx0v1r0").span(0), 1);
    }

    private static void nearest(Check check) {
        GallopDispatch x = Check.ride("sl10;dx8;dx2;dx6");
        int[] due = {1, 1, 1, 1, 1, 2, 2, 0, 0, 0, 0};
        for (int step = 0; step <= 10; step++) {
            check.due("nearest(" + step + ")", x.nearest(step), due[step]);
        }
        check.due("nearest(11)", x.nearest(11), -1);
        check.due("nearest(-1)", x.nearest(-1), -1);
        x.move(0, 4);
        check.due("of several the lowest", x.nearest(3), 0);
    }

    private static void most(Check check) {
        GallopDispatch x = Check.ride("sl10p5m0;de4r1;de6r7;de6r7;fx1d2;fx2d5;fx3d5");
        check.due("bravest", x.most(0), 1);
        check.due("famous, all nought", x.most(1), 0);
        check.due("highest", x.most(2), 1);
        check.due("deepest", x.most(3), 1);
        check.due("most(4)", x.most(4), -1);
        check.due("most(-1)", x.most(-1), -1);
        x.deed(2);
        check.due("bravest", x.most(0), 2);
        x.fill(1);
        check.due("deepest", x.most(3), 2);
        Check.hold(x, "y:r");
        x.days(1);
        check.due("famous", x.most(1), 1);
        check.due("the first is highest", Check.ride("dr2;dr1;dr2").most(2), 0);
        check.due("one alone", Check.ride("d").most(2), 0);
        GallopDispatch dry = Check.ride("d;f x3 d0");
        check.due("a ford without depth", dry.most(3), 0);
        check.due("no ford", Check.ride("d").most(3), -1);
    }

    private static void ahead(Check check) {
        GallopDispatch x = Check.ride("sl10p5w20m0;dr1;dr2");
        Check.hold(x, "y:r");
        check.due("three a day", x.mentions(1), 3);
        check.due("one", x.ahead(1, 1), 1);
        check.due("three", x.ahead(1, 3), 1);
        check.due("four", x.ahead(1, 4), 2);
        check.due("the last that is within", x.ahead(1, 2997), 999);
        check.due("not within", x.ahead(1, 2998), -1);
        check.due("never", x.ahead(0, 1), -1);
        GallopDispatch famous = Check.ride("sl30p1w20m0;d");
        Check.hold(famous, "y:9");
        check.due("the most that there is", famous.ahead(0, 9999), 500);
        check.due("nought", x.ahead(1, 0), -1);
        check.due("10,000", x.ahead(1, 10000), -1);
        check.due("no such man", x.ahead(2, 1), -1);
        check.due("no such man", x.ahead(-1, 1), -1);
        x.days(2);
        check.due("he has it", x.ahead(1, 6), 0);
        check.due("one more", x.ahead(1, 7), 1);
        check.due("as far as that", x.ahead(1, 3003), 999);
        Check.hold(x, "y:0");
        check.due("he has it, mentioned no more", x.ahead(1, 6), 0);
        check.due("never now", x.ahead(1, 7), -1);
    }
}

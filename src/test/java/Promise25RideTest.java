/** Promise 25: ride. */
public final class Promise25RideTest {
    private static Check check;

    public static void main(String[] args) {
        check = new Check("Promise25RideTest");
        noSuchWhat();
        slips();
        leftOut();
        last();
        room();
        dry();
        time();
        check.end();
    }

    private static GallopDispatch ride(String text, String law) {
        GallopDispatch x = Check.ride(text);
        Check.hold(x, law);
        return x;
    }

    /** "NONE: no RIDE, no such what" */
    private static void noSuchWhat() {
        Refusal.due(check, "ride(-1)", Rich::made, x -> x.ride(-1), -1, Refusal.NO_STATUS);
        Refusal.due(check, "ride(6)", Rich::made, x -> x.ride(6), -1, Refusal.NO_STATUS);
        for (int wild : Refusal.wildNumbers()) {
            check.due("ride(" + wild + ")", Rich.made().ride(wild), -1);
        }
        for (int k = 0; k <= 5; k++) {
            int what = k;
            check.due("without a ride", new GallopDispatch().ride(what), -1);
            Refusal.onlyAsks(check, "ride(" + what + ")", Rich::made, x -> x.ride(what));
        }
    }

    private static void slips() {
        check.due("none without words", ride("d", "y:0").ride(0), 0);
        check.due("none heard above 2", ride("sl30p1w20m9;d;d", "y:3").ride(0), 0);
        check.due("each heard 2", ride("sl30p1w20m9;d;d", "y:2").ride(0), 20);
        check.due("none without mud", ride("sl30p1w20m0;d;d", "y:2").ride(0), 0);
        check.due("some", ride("sl10p1w20m1;d;d", "y:n/3").ride(0), 6);
        check.due("slips for which there is no room are none", ride("sl10p1w2m1;d;d", "y:n/3").ride(0), 2);
    }

    /** "MEN (bits) who are not MENTIONED" */
    private static void leftOut() {
        for (int men = 1; men <= 6; men++) {
            String text = "sl5p1w20m0;dx0r1;dx1r2;dx2r3;dx3r4;dx4r5;dx5r6".substring(0, 10 + 6 * men);
            check.due("all of " + men, ride(text, "y:0").ride(1), (1 << men) - 1);
            check.due("none of " + men, ride(text, "y:d=0?9").ride(1), 0);
            check.due("all but the first of " + men, ride(text, "y:d=0&r=1?9").ride(1), (1 << men) - 2);
            check.due("the last of " + men, ride(text, "y:d=0&r<" + men + "?9").ride(1), 1 << men - 1);
        }
        check.due("behind the room", ride("sl5p1w2m0;dx0;dx1;dx2", "y:d=0?9").ride(1), 4);
    }

    /** "LAST: the STEP at which the last WORD there is room for is SET DOWN"; "NONE: room is left" */
    private static void last() {
        check.due("room for 1", ride("sl10p1w1m0;d", "y:9").ride(2), 0);
        check.due("room for 10", ride("sl10p1w10m0;d", "y:9").ride(2), 9);
        check.due("room for all", ride("sl10p1w11m0;d", "y:9").ride(2), 10);
        check.due("room for one more", ride("sl10p1w12m0;d", "y:9").ride(2), -1);
        check.due("at pace 5", ride("sl30p5w7m0;d", "y:9").ride(2), 30);
        check.due("room is left at pace 5", ride("sl30p5w8m0;d", "y:9").ride(2), -1);
        check.due("no word", ride("sl10p1w1m0;d", "y:0").ride(2), -1);
        check.due("the only one, late", ride("sl10p1w1m0;d", "y:n=10?9").ride(2), 10);
        check.due("twenty", ride("sl30p1w20m0;d", "y:n>10?9").ride(2), 30);
        check.due("one too few for twenty", ride("sl30p1w20m0;d", "y:n>11?9").ride(2), -1);
    }

    /** "the fewest WORDS (1 .. 20), so that all are MENTIONED who would be with 20" */
    private static void room() {
        check.due("nobody: the least there is", ride("d;d", "y:0").ride(3), 1);
        check.due("one man", ride("sl10p1m0;d", "y:9").ride(3), 1);
        check.due("the other as the second", ride("sl10p1m0;dr0;dr1", "y:n=r?9").ride(3), 2);
        check.due("the last at the twentieth", ride("sl30p1m0w1;dr0;dr1", "y:n<19&r=0?9;y:n>18&r=1?9").ride(3), 20);
        check.due("at the nineteenth", ride("sl30p1m0w1;dr0;dr1", "y:n<18&r=0?9;y:n>17&r=1?9").ride(3), 19);
        check.due("at a twenty-first none is", ride("sl30p1m0w1;dr0;dr1", "y:n<20&r=0?9;y:n>19&r=1?9").ride(3), 1);
        check.due("with more room than it needs", ride("sl10p1m0w20;dr0;dr1", "y:n=r?9").ride(3), 2);
        check.due("with less room than it needs", ride("sl5p1m0w1;dr0;dr1;dr2;dr3;dr4;dr5", "y:n=r?9").ride(3), 6);
        check.due("by slips, too", ride("sl10p5m1w9;dr1;dr2", "y:n<10&r=1?9;y:n=10&r=1?2").ride(3), 3);
        check.due("the first man as the last", ride("sl10p1m0;dr1;dr0", "y:n=r?9").ride(3), 2);
        check.due("each man at each place", ride("sl5p1m0;dr5;dr4;dr3;dr2;dr1;dr0", "y:n=r?9").ride(3), 6);
        check.due("the first one alone, late", ride("sl10p1m0;dr3;dr0", "y:r=3&n=7?9").ride(3), 1);
        GallopDispatch x = ride("sl5p1m0w1;dr0;dr1;dr2", "y:n=r?9");
        check.due("room", x.ride(3), 3);
        check.due("words as there is room for", x.words(-1), 1);
        check.due("left out as there is room for", x.ride(1), 6);
    }

    /** "STEPS (how many, 0 .. LENGTH) without a FORD of DEPTH" */
    private static void dry() {
        check.due("no ford, least length", Check.ride("sl5;d").ride(4), 6);
        check.due("no ford, greatest length", Check.ride("sl30;d").ride(4), 31);
        check.due("a ford of no depth", Check.ride("sl10;d;fd0").ride(4), 11);
        check.due("a ford of one", Check.ride("sl10;d;fd1").ride(4), 10);
        check.due("at both ends", Check.ride("sl10;d;fx0;fx10").ride(4), 9);
        check.due("five", Check.ride("sl5;d;fx0;fx1;fx2;fx3;fx4").ride(4), 1);
        GallopDispatch x = Check.ride("sl10;d;fd2");
        x.fill(0);
        check.due("one is left", x.ride(4), 10);
        x.fill(0);
        check.due("filled", x.ride(4), 11);
        check.due("by any pace", Check.ride("sl10p5;d;fx3").ride(4), 10);
    }

    /** "LENGTH by PACE, cut, and DEPTHS of all FORDS together" */
    private static void time() {
        int[] due = {11, 5, 3, 2, 2};
        for (int pace = 1; pace <= 5; pace++) {
            check.due("eleven by " + pace, Check.ride("sl11p" + pace + ";d").ride(5), due[pace - 1]);
        }
        check.due("ten by five", Check.ride("sl10p5;d").ride(5), 2);
        check.due("nine by five", Check.ride("sl9p5;d").ride(5), 1);
        check.due("thirty by one, five of nine", Check.ride("sl30p1;d;fx1d9;fx2d9;fx3d9;fx4d9;fx5d9").ride(5), 75);
        GallopDispatch x = Check.ride("sl11p2;d;fx1d2;fx2d0;fx3d1");
        check.due("five and three", x.ride(5), 8);
        x.fill(0);
        check.due("one filled", x.ride(5), 7);
        x.feedHorse(true);
        check.due("fed", x.ride(5), 5);
    }
}

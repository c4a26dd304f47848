/** Promise 10: heard, and the Terms' sentences on HEARD and WORTH. */
public final class Promise10HeardTest {
    private static Check check;

    public static void main(String[] args) {
        check = new Check("Promise10HeardTest");
        noSuchOnes();
        withoutLaw();
        paceByTwo();
        rankByThree();
        heldWithin();
        fords();
        fordsAtBothEnds();
        fordsOfAnotherRide();
        lettersAsNow();
        bounded();
        division();
        comparisons();
        clausesInTurn();
        binding();
        check.end();
    }

    /** "NONE: no such MAN, no such STEP" */
    private static void noSuchOnes() {
        int[][] none = {{-1, 0}, {3, 0}, {0, -1}, {0, 13}, {3, 13}, {-1, -1}};
        for (int[] one : none) {
            Refusal.due(check, "heard(" + one[0] + ", " + one[1] + ")", Rich::made,
                x -> x.heard(one[0], one[1]), -1, Refusal.NO_STATUS);
        }
        for (int length = 5; length <= 30; length += 5) {
            GallopDispatch x = Check.ride("sl" + length + ";d");
            Check.hold(x, "y:7");
            check.due("ahead of the road", x.heard(0, -1), -1);
            check.due("its first step", x.heard(0, 0), 7);
            check.due("its last step but one", x.heard(0, length - 1), 7);
            check.due("its last step", x.heard(0, length), 7);
            check.due("behind the road", x.heard(0, length + 1), -1);
        }
        GallopDispatch x = Rich.made();
        for (int wild : Refusal.wildNumbers()) {
            check.due("heard(" + wild + ", 0)", x.heard(wild, 0), -1);
            check.due("heard(0, " + wild + ")", x.heard(0, wild), -1);
        }
        check.due("without a ride", new GallopDispatch().heard(0, 0), -1);
        Refusal.onlyAsks(check, "heard(0, 3)", Rich::made, y -> y.heard(0, 3));
        Refusal.onlyAsks(check, "heard(2, 4), a ford", Rich::made, y -> y.heard(2, 4));
    }

    /** "VOICE less how far he STANDS from there, less PACE by 2, cut, and RANK by 3, cut" */
    private static void withoutLaw() {
        GallopDispatch x = Check.ride("sl20p2;dx10v9r4");
        int[] due = {0, 0, 1, 2, 3, 4, 5, 6, 7, 8, 9, 8, 7, 6, 5, 4, 3, 2, 1, 0, 0};
        for (int step = 0; step <= 20; step++) {
            check.due("heard(0, " + step + ")", x.heard(0, step), due[step]);
        }
        GallopDispatch y = Check.ride("sl30p1;dx0v9r0;dx30v9r0");
        check.due("nine steps off", y.heard(0, 9), 0);
        check.due("eight steps off", y.heard(0, 8), 1);
        check.due("nine steps off, ahead of him", y.heard(1, 21), 0);
        check.due("eight steps off, ahead of him", y.heard(1, 22), 1);
        check.due("the whole road off", y.heard(0, 30), 0);
    }

    private static void paceByTwo() {
        int[] due = {7, 6, 6, 5, 5};
        for (int pace = 1; pace <= 5; pace++) {
            GallopDispatch x = Check.ride("sp" + pace + ";dx0v7r0");
            check.due("pace " + pace, x.heard(0, 0), due[pace - 1]);
        }
    }

    private static void rankByThree() {
        int[] due = {3, 3, 3, 4, 4, 4, 5, 5, 5, 6};
        for (int rank = 0; rank <= 9; rank++) {
            GallopDispatch x = Check.ride("sp1;dx0v3r" + rank);
            check.due("rank " + rank, x.heard(0, 0), due[rank]);
        }
    }

    private static int heardBy(String law) {
        GallopDispatch x = Check.ride("sl10p3m5;dx6v7r4");
        Check.hold(x, law);
        return x.heard(0, 2);
    }

    private static void worth(String law, int due) {
        check.due("heard by '" + law + "'", heardBy(law), due);
    }

    /** "held within 0 .. 9" */
    private static void heldWithin() {
        worth("y:0-2", 0);
        worth("y:0-1", 0);
        worth("y:0", 0);
        worth("y:1", 1);
        worth("y:8", 8);
        worth("y:9", 9);
        worth("y:10", 9);
        worth("y:9999", 9);
        worth("y:9999*9999", 9);
        worth("y:0-9999*9999", 0);
        GallopDispatch x = Check.ride("sp1;dx0v9r9;dx0v0r0;dx0v9r0;dx0v8r3;dx0v9r3");
        check.due("9 and 3, held", x.heard(0, 0), 9);
        check.due("9 and 3 less 3", x.heard(0, 3), 9);
        check.due("9 and 3 less 4", x.heard(0, 4), 8);
        check.due("nought", x.heard(1, 0), 0);
        check.due("below nought, held", x.heard(1, 20), 0);
        check.due("nine", x.heard(2, 0), 9);
        check.due("nine of both", x.heard(3, 0), 9);
        check.due("ten of both, held", x.heard(4, 0), 9);
    }

    /** "At a STEP with a FORD of a DEPTH above 0 nobody is HEARD." */
    private static void fords() {
        GallopDispatch x = Check.ride("sl12;dx5;dx6;fx0d1;fx5d0;fx6d1;fx7d9;fx12d2");
        Check.hold(x, "y:9");
        for (int step = 0; step <= 12; step++) {
            boolean wet = step == 0 || step == 6 || step == 7 || step == 12;
            check.due("heard(0, " + step + ")", x.heard(0, step), wet ? 0 : 9);
            check.due("heard(1, " + step + ")", x.heard(1, step), wet ? 0 : 9);
        }
        x.fill(2);
        check.due("filled", x.heard(1, 6), 9);
        x.undo();
        check.due("undone", x.heard(1, 6), 0);
        x.fill(4);
        check.due("one is left", x.heard(1, 12), 0);
        x.fill(4);
        check.due("none is left", x.heard(1, 12), 9);
        x.law(-1);
        check.due("a ford without a law", x.heard(1, 7), 0);
    }

    private static void fordsAtBothEnds() {
        for (int length = 5; length <= 30; length++) {
            GallopDispatch x = Check.ride("sl" + length + ";d;fx0d9;fx" + length + "d1");
            Check.hold(x, "y:9");
            check.due("at the start", x.heard(0, 0), 0);
            check.due("behind it", x.heard(0, 1), 9);
            check.due("ahead of the end", x.heard(0, length - 1), 9);
            check.due("at the end", x.heard(0, length), 0);
        }
    }

    /** Another RIDE has FORDS of its own. */
    private static void fordsOfAnotherRide() {
        GallopDispatch x = Check.ride("sl30;d;fx0;fx7;fx29;fx30");
        Check.hold(x, "y:9");
        x.words(-1);
        check.due("at the end", x.heard(0, 30), 0);
        Check.tell(x, "sl30;d;fx8", 0);
        for (int step = 0; step <= 30; step++) {
            check.due("heard(0, " + step + ")", x.heard(0, step), step == 8 ? 0 : 9);
        }
        check.due("dry", x.ride(4), 30);
    }

    /** "v VOICE, d how far, p PACE, m MUD, r RANK, n the STEP" */
    private static void lettersAsNow() {
        worth("y:v", 7);
        worth("y:d", 4);
        worth("y:p", 3);
        worth("y:m", 5);
        worth("y:r", 4);
        worth("y:n", 2);
        GallopDispatch x = Check.ride("sl10p3m5;dx6v7r4");
        x.voice(0, 2);
        x.move(0, 1);
        x.feedHorse(true);
        x.rain(8);
        Check.hold(x, "y:v");
        check.due("voice now", x.heard(0, 4), 2);
        check.due("which law", Check.tell(x, "y:d", 1), 1);
        x.law(1);
        check.due("how far now", x.heard(0, 4), 3);
        check.due("how far on the other side", x.heard(0, 0), 1);
        check.due("how far where he stands", x.heard(0, 1), 0);
        Check.hold(x, "y:p");
        check.due("pace now", x.heard(0, 4), 4);
        Check.hold(x, "y:m");
        check.due("mud now", x.heard(0, 4), 8);
        GallopDispatch far = Check.ride("sl30;dx0;dx30");
        Check.hold(far, "y:d-21");
        check.due("thirty off", far.heard(0, 30), 9);
        check.due("thirty off, ahead", far.heard(1, 0), 9);
        check.due("twenty-nine off", far.heard(0, 29), 8);
        Check.hold(far, "y:n-21");
        check.due("the thirtieth", far.heard(0, 30), 9);
    }

    /** "Behind each sign numbers are within -1,000,000 .. 1,000,000" */
    private static void bounded() {
        worth("y:1000*1000-9999*100-92", 8);
        worth("y:1000*1000+1-9999*100-92", 8);
        worth("y:1000*1000-1-9999*100-92", 7);
        worth("y:1001*1000-9999*100-92", 8);
        worth("y:9999*9999-9999*100-92", 8);
        worth("y:1000*1000+[1-1]-9999*100-92", 8);
        worth("y:0-1000*1000+9999*100+108", 8);
        worth("y:0-1000*1000-1+9999*100+108", 8);
        worth("y:0-1000*1000+1+9999*100+107", 8);
        worth("y:0-9999*9999+9999*100+108", 8);
        worth("y:[0-9999]*9999+9999*100+108", 8);
        worth("y:[0-1000]*[0-1001]-9999*100-92", 8);
        worth("y:999*1001-9999*100-90", 9);
        // The bound is held behind each sign, not at the end.
        worth("y:9999*9999*0+3", 3);
        worth("y:1000*1000*1000/1000-993", 7);
        worth("y:1000*1000+9-1000*1000", 0);
        worth("y:9-1000*1000+1000*1000", 9);
        worth("y:9-1000*1000-9+1000*1000", 0);
        worth("y:[1000*1000+1]-1000*1000", 0);
        worth("y:9+[0-1000*1000-5]+1000*1000", 9);
        worth("y:1000*1000=1000*1000+1?1;y:2", 1);
        worth("y:1000*1000<1000*1000+1?1;y:2", 2);
        worth("y:1000*1000-1<1000*1000?1;y:2", 1);
        worth("y:0-1000*1000=0-1000*1000-1?1;y:2", 1);
    }

    /** "/ cuts towards 0, by 0 gives 0" */
    private static void division() {
        worth("y:7/1", 7);
        worth("y:7/2", 3);
        worth("y:8/2", 4);
        worth("y:9/2", 4);
        worth("y:1/2", 0);
        worth("y:5+[0-1]/2", 5);
        worth("y:5+[0-2]/2", 4);
        worth("y:5+[0-3]/2", 4);
        worth("y:5+3/[0-2]", 4);
        worth("y:5+[0-3]/[0-2]", 6);
        worth("y:5+7/0", 5);
        worth("y:5+0/0", 5);
        worth("y:5+7/[v-7]", 5);
        worth("y:5+7/[v-7]*9", 5);
        worth("y:5+[0-7]/0", 5);
        worth("y:9999*9999/9999/100-1", 0);
        worth("y:9999*9999/9999/50", 2);
    }

    /** "one of = < >": just below, at and just above. */
    private static void comparisons() {
        int[] below = {2, 2, 1};
        String signs = "=<>";
        for (int k = 0; k < 3; k++) {
            char sign = signs.charAt(k);
            worth("y:v" + sign + "6?1;y:2", k == 2 ? 1 : 2);
            worth("y:v" + sign + "7?1;y:2", k == 0 ? 1 : 2);
            worth("y:v" + sign + "8?1;y:2", k == 1 ? 1 : 2);
            worth("y:0-1" + sign + "0?1;y:2", k == 1 ? 1 : 2);
            worth("y:0" + sign + "0-1?1;y:2", below[k]);
        }
    }

    /** "the SUM of the first CLAUSE whose CONDITION holds (or has none), 0 without" */
    private static void clausesInTurn() {
        worth("y:3;y:4", 3);
        worth("y:v=7?3;y:4", 3);
        worth("y:v=6?3;y:4", 4);
        worth("y:v=6?3;y:v=7?4;y:5", 4);
        worth("y:v=7?3;y:v=7?4;y:5", 3);
        worth("y:v=6?3;y:v=6?4;y:5", 5);
        worth("y:v=6?3", 0);
        worth("y:v=6?3;y:v=8?4", 0);
        worth("y:v=7?0-5;y:4", 0);
        worth("y:v=6?1;".repeat(28) + "y:v=7?2;y:3", 2);
        worth("y:v=6?1;".repeat(29) + "y:v=7?2", 2);
        worth("y:v=6?1;".repeat(29) + "y:v=8?2", 0);
    }

    /** & binds closer than |, * and / closer than + and -, ! closest; of alikes the first comes first. */
    private static void binding() {
        worth("y:1+2*3", 7);
        worth("y:2*3+1", 7);
        worth("y:[1+2]*3", 9);
        worth("y:9-4-3", 2);
        worth("y:9-[4-3]", 8);
        worth("y:9-4+3", 8);
        worth("y:40/5/2", 4);
        worth("y:8/3*2", 4);
        worth("y:8/[3*2]", 1);
        worth("y:20-8/2*4", 4);
        worth("y:v=7|v=7&v=6?1;y:2", 1);
        worth("y:(v=7|v=7)&v=6?1;y:2", 2);
        worth("y:v=6&v=6|v=7?1;y:2", 1);
        worth("y:v=6&(v=6|v=7)?1;y:2", 2);
        worth("y:!v=6&v=6?1;y:2", 2);
        worth("y:!(v=6&v=6)?1;y:2", 1);
        worth("y:!v=6&v=7?1;y:2", 1);
        worth("y:v=7&!v=6?1;y:2", 1);
        worth("y:!v=6&!v=8?1;y:2", 1);
        worth("y:v=6|!v=6?1;y:2", 1);
        worth("y:!v=7|v=7?1;y:2", 1);
        worth("y:!(v=7|v=7)?1;y:2", 2);
        worth("y:!!v=7?1;y:2", 1);
        worth("y:!!!v=7?1;y:2", 2);
        worth("y:!!!!!!v=7?1;y:2", 1);
        worth("y:((((((v=7))))))?1;y:2", 1);
        worth("y:[[[[[[v]]]]]]-[[[[[[d]]]]]]", 3);
    }
}

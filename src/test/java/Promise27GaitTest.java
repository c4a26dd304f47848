/** Promise 27: gait. */
public final class Promise27GaitTest {
    private static Check check;

    public static void main(String[] args) {
        check = new Check("Promise27GaitTest");
        noSuchOnes();
        oneToFive();
        ofSeveralTheLeast();
        never();
        heardByThatPace();
        check.end();
    }

    private static void gaitIs(String why, String ride, String law, int man, int pace, int many) {
        GallopDispatch x = Check.ride(ride);
        Check.hold(x, law);
        check.due(why + ": the pace", x.gait(man, 0), pace);
        check.due(why + ": how many", x.gait(man, 1), many);
    }

    /** "NONE: no such ones" */
    private static void noSuchOnes() {
        int[][] none = {{-1, 0}, {3, 0}, {3, 1}, {0, -1}, {0, 2}, {2, 2}, {3, 2}};
        for (int[] one : none) {
            Refusal.due(check, "gait(" + one[0] + ", " + one[1] + ")", Rich::made,
                x -> x.gait(one[0], one[1]), -1, Refusal.NO_STATUS);
        }
        for (int wild : Refusal.wildNumbers()) {
            check.due("gait(" + wild + ", 0)", Rich.made().gait(wild, 0), -1);
            check.due("gait(0, " + wild + ")", Rich.made().gait(0, wild), -1);
        }
        check.due("without a ride", new GallopDispatch().gait(0, 0), -1);
        Refusal.onlyAsks(check, "gait(0, 0)", Rich::made, x -> x.gait(0, 0));
        Refusal.onlyAsks(check, "gait(2, 1)", Rich::made, x -> x.gait(2, 1));
    }

    /** "the PACE (1 .. 5) by which he has the most" */
    private static void oneToFive() {
        for (int pace = 1; pace <= 5; pace++) {
            for (int now = 1; now <= 5; now += 2) {
                gaitIs("only by " + pace, "sl10w20m0p" + now + ";d", "y:p=" + pace + "?9", 0, pace, 10 / pace + 1);
            }
        }
        gaitIs("by none of them", "sl10w20m0;d", "y:p<1|p>5?9", 0, 1, 0);
    }

    private static void ofSeveralTheLeast() {
        gaitIs("room for one", "sl10w1m0p5;d", "y:9", 0, 1, 1);
        gaitIs("room for three: by 1 to 5", "sl10w3m0p5;d", "y:9", 0, 1, 3);
        gaitIs("by 3 and by 5 two each", "sl5w20m0;d", "y:p=3?9;y:p=5?9", 0, 3, 2);
        gaitIs("by 4 and by 5", "sl5w20m0;d", "y:p>3?9", 0, 4, 2);
    }

    private static void never() {
        gaitIs("never", "sl10w20m0p4;d", "y:0", 0, 1, 0);
        gaitIs("never himself", "sl10w20m0p4;d;d", "y:9", 1, 1, 0);
    }

    /** PACE counts by which STEPS there are and by how he is HEARD; without a LAW, too. */
    private static void heardByThatPace() {
        // 0 is heard 4, 3, 3, 2, 2 where he stands, the other 3 everywhere: by 1 he has one word, by 2 he has one.
        gaitIs("a word at 4", "sl20w20m0;dx4v4r0;dx4v0r9", "y:d=0&r=0?5;y:r=9&n>0?6-p", 0, 1, 1);
        GallopDispatch x = Check.ride("sl10p5w20m0;dx0v1r0;dx10v9r0");
        check.due("by 1 he is heard at the start", x.gait(0, 0), 1);
        check.due("once", x.gait(0, 1), 1);
        check.due("the other", x.gait(1, 0), 1);
        check.due("nine times", x.gait(1, 1), 9);
        GallopDispatch y = Check.ride("sl20p1w2m0;dx0v9r0;dx4v9r0");
        // Two words: by 1 and 2 both are 0's; by 3 and 4 the second is the other's, who is louder there.
        check.due("a further step is the other's", y.gait(1, 0), 3);
        check.due("once", y.gait(1, 1), 1);
    }
}

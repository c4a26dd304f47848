/** Promises 33 to 37: PENSIONS, UNFAIR, GAME, RESTS, ODDS. */
public final class PensionsAndGamesTest {
    private static final int HIDDEN = GallopDispatch.HIDDEN;

    public static void main(String[] args) {
        Check check = new Check("PensionsAndGamesTest");
        pensions(check);
        noMerits(check);
        games(check);
        loudestShout(check);
        rests(check);
        noRest(check);
        odds(check);
        oddsAreCut(check);
        check.end();
    }

    /** Mentions 3, 2, 1 and deeds 0, 3, 4. */
    private static GallopDispatch three() {
        GallopDispatch x = Check.ride("sl5p1w20m0;de0r1;de3r2;de4r3");
        Check.hold(x, "y:r=1&n<3?9;y:r=2&n>2&n<5?9;y:r=3&n=5?9");
        return x;
    }

    private static void pensions(Check check) {
        GallopDispatch x = three();
        int[] byMentions = {50, 33, 16};
        int[] byDeeds = {0, 42, 57};
        for (int man = 0; man < 3; man++) {
            check.due("pension by mentions", x.pension(man, 100, 0), byMentions[man]);
            check.due("pension by deeds", x.pension(man, 100, 1), byDeeds[man]);
        }
        check.due("999", x.pension(0, 999, 0), 499);
        check.due("nought", x.pension(0, 0, 0), 0);
        check.due("1000", x.pension(0, 1000, 0), -1);
        check.due("-1", x.pension(0, -1, 1), -1);
        check.due("what 2", x.pension(0, 1, 2), -1);
        check.due("what -1", x.pension(0, 1, -1), -1);
        check.due("no such man", x.pension(3, 1, 0), -1);
        check.due("no such man", x.pension(-1, 1, 1), -1);
        check.due("unfair", x.unfair(100), 50 + 9 + 41);
        check.due("unfair, asked first", three().unfair(100), 50 + 9 + 41);
        check.due("unfair of nought", x.unfair(0), 0);
        check.due("unfair of 1000", x.unfair(1000), -1);
        check.due("unfair of -1", x.unfair(-1), -1);
        x.deed(0);
        check.due("by deeds as they are now", x.pension(0, 100, 1), 12);
    }

    private static void noMerits(Check check) {
        GallopDispatch x = Check.ride("d e0; d e0");
        Check.hold(x, "y:0");
        check.due("no mentions", x.pension(0, 999, 0), 0);
        check.due("no deeds", x.pension(0, 999, 1), 0);
        check.due("unfair", x.unfair(999), 0);
        x.deed(1);
        check.due("unfair", x.unfair(999), 999);
    }

    /** 0's voice is a slip to 1 till he shouts; 2 is far from both. */
    private static GallopDispatch shouters() {
        GallopDispatch x = Check.ride("sl6p2w20m1;dx0v2;dx2v5;dx4v9");
        Check.hold(x, "y:d=0?v");
        return x;
    }

    private static void games(Check check) {
        GallopDispatch x = shouters();
        check.due("the one", x.game(0, 1, 0, 0, 0), 0);
        check.due("the other", x.game(0, 1, 0, 0, 1), 6);
        check.due("the one louder", x.game(0, 1, 1, 0, 0), 2);
        check.due("the other then", x.game(0, 1, 1, 0, 1), 3);
        check.due("both at most", x.game(0, 1, 4, 4, 0), -1);
        check.due("both at most", x.game(0, 1, 4, 4, 1), -1);
        check.due("the other way round", x.game(1, 0, 0, 1, 1), 2);
        check.due("the other way round", x.game(1, 0, 0, 1, 0), 3);
        check.due("x 5", x.game(0, 1, 5, 0, 0), HIDDEN);
        check.due("x -1", x.game(0, 1, -1, 0, 0), HIDDEN);
        check.due("y 5", x.game(0, 1, 0, 5, 0), HIDDEN);
        check.due("y -1", x.game(0, 1, 0, -1, 0), HIDDEN);
        check.due("what 2", x.game(0, 1, 0, 0, 2), HIDDEN);
        check.due("what -1", x.game(0, 1, 0, 0, -1), HIDDEN);
        check.due("alike", x.game(1, 1, 0, 0, 0), HIDDEN);
        check.due("no such one", x.game(3, 1, 0, 0, 0), HIDDEN);
        check.due("no such other", x.game(0, 3, 0, 0, 0), HIDDEN);
        check.due("no such one", x.game(-1, 1, 0, 0, 0), HIDDEN);
        check.due("no such other", x.game(0, -1, 0, 0, 0), HIDDEN);
        check.due("nobody is louder by asking", x.man(0, 1), 2);
    }

    private static void loudestShout(Check check) {
        GallopDispatch x = Check.ride("sl5p5w20m0;dv8r0;dv7r0");
        Check.hold(x, "y:v=9?9;y:v>9?0;y:1");
        check.due("nine at most", x.game(0, 1, 4, 0, 0), 6 - 4);
        check.due("nine at most", x.game(0, 1, 0, 4, 1), 6 - 4);
    }

    private static void rests(Check check) {
        GallopDispatch x = shouters();
        check.due("how many", x.rests(0, 1, -1), 1);
        check.due("the one louder", x.rests(0, 1, 0), 10);
        check.due("rests(0, 1, 1)", x.rests(0, 1, 1), -1);
        check.due("rests(0, 1, -2)", x.rests(0, 1, -2), -1);
        check.due("the other way round", x.rests(1, 0, 0), 1);
        check.due("alike", x.rests(1, 1, -1), -1);
        check.due("no such one", x.rests(3, 1, -1), -1);
        check.due("no such other", x.rests(0, -1, -1), -1);
        // Shouting 3 more brings 0 one word, which is as much as it costs.
        GallopDispatch y = Check.ride("sl6p2w20m1;dx0v0;dx2v9");
        Check.hold(y, "y:d=0?v");
        check.due("how many", y.rests(0, 1, -1), 2);
        check.due("the first", y.rests(0, 1, 0), 0);
        check.due("the second", y.rests(0, 1, 1), 30);
        check.due("a third", y.rests(0, 1, 2), -1);
        check.due("the other way round", y.rests(1, 0, 1), 3);
    }

    private static void noRest(Check check) {
        GallopDispatch x = Check.ride("sl5p5w1m0;dv5;dv5");
        Check.hold(x, "y:v");
        check.due("each would rather be one louder", x.rests(0, 1, -1), 0);
        check.due("rests(0, 1, 0)", x.rests(0, 1, 0), -1);
    }

    private static void odds(Check check) {
        GallopDispatch x = Check.ride("sl10p2w1m1;dx0;dx8;dx9");
        Check.hold(x, "y:d=0?9");
        check.due("the first", x.odds(0, 30), 700000000);
        check.due("the second, while there is room", x.odds(1, 30), 210000000);
        check.due("never", x.odds(2, 30), 0);
        check.due("chance 0", x.odds(0, 0), 1000000000);
        check.due("chance 0", x.odds(1, 0), 0);
        check.due("chance 100", x.odds(0, 100), 0);
        check.due("chance 101", x.odds(0, 101), -1);
        check.due("chance -1", x.odds(0, -1), -1);
        check.due("no such man", x.odds(3, 30), -1);
        check.due("no such man", x.odds(-1, 30), -1);
        GallopDispatch y = Check.ride("sl10p2w2m1;dx0v1;dx8v1");
        Check.hold(y, "y:d=0?v");
        check.due("by a slip", y.odds(1, 25), 750000000);
        check.due("by a slip", y.odds(0, 25), 750000000);
    }

    /** The first speaks at 0 .. 5, the second at 6, room for one: six times nothing, then a word. */
    private static void oddsAreCut(Check check) {
        GallopDispatch x = Check.ride("sl10p1w1m0;dr1;dr2");
        Check.hold(x, "y:n<6&r=1?9;y:n=6&r=2?9");
        // 330000000 108900000 35937000 11859210 3913539 1291467, of which 426184 hear nothing again.
        check.due("cut each time", x.odds(1, 33), 1291467 - 426184);
        GallopDispatch y = Check.ride("sl30p1w20m0;dr1;dr2");
        Check.hold(y, "y:n<30&r=1?9;y:n=30&r=2?9");
        check.due("room for twenty of thirty, at the last step", y.odds(1, 0), 0);
        check.due("all are silent", y.odds(1, 100), 0);
        Check.hold(y, "y:n<19&r=1?9;y:n=30&r=2?9");
        check.due("room for the twentieth", y.odds(1, 0), 1000000000);
        Check.hold(y, "y:n<3&r=1?9;y:n=30&r=2?9");
        check.due("half of the time", y.odds(1, 50), 500000000);
    }
}

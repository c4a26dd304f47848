/** Promise 37: odds. */
public final class Promise37OddsTest {
    private static final int ALL = 1000000000;
    private static Check check;

    public static void main(String[] args) {
        check = new Check("Promise37OddsTest");
        noSuchMan();
        outOfBounds();
        alone();
        cut();
        room();
        groupsAreCutEach();
        never();
        bySlips();
        onlyAtEachThatCanBeDivided();
        check.end();
    }

    private static void oddsAre(String why, String ride, String law, int man, int chance, int due) {
        GallopDispatch x = Check.ride(ride);
        Check.hold(x, law);
        check.due(why + " by " + chance, x.odds(man, chance), due);
    }

    private static void noSuchMan() {
        Refusal.due(check, "odds(-1, 50)", Rich::made, x -> x.odds(-1, 50), -1, Refusal.NO_STATUS);
        Refusal.due(check, "odds(3, 50)", Rich::made, x -> x.odds(3, 50), -1, Refusal.NO_STATUS);
        for (int wild : Refusal.wildNumbers()) {
            check.due("odds(" + wild + ", 50)", Rich.made().odds(wild, 50), -1);
            check.due("odds(0, " + wild + ")", Rich.made().odds(0, wild), -1);
        }
        check.due("without a ride", new GallopDispatch().odds(0, 0), -1);
        Refusal.onlyAsks(check, "odds(0, 30)", Rich::made, x -> x.odds(0, 30));
        Refusal.onlyAsks(check, "odds(2, 100)", Rich::made, x -> x.odds(2, 100));
    }

    /** "a chance (0 .. 100)" */
    private static void outOfBounds() {
        Refusal.due(check, "odds(0, -1)", Rich::made, x -> x.odds(0, -1), -1, Refusal.NO_STATUS);
        Refusal.due(check, "odds(0, 101)", Rich::made, x -> x.odds(0, 101), -1, Refusal.NO_STATUS);
        oddsAre("never silent", "sl5p5w1m0;d", "y:n=0?9", 0, 0, ALL);
        oddsAre("once", "sl5p5w1m0;d", "y:n=0?9", 0, 1, 990000000);
        oddsAre("once", "sl5p5w1m0;d", "y:n=0?9", 0, 99, 10000000);
        oddsAre("always silent", "sl5p5w1m0;d", "y:n=0?9", 0, 100, 0);
    }

    /** "each by itself": he is in it unless all of his STEPS are silent. */
    private static void alone() {
        oddsAre("two steps", "sl5p5m0;d", "y:9", 0, 50, 750000000);
        oddsAre("three steps", "sl10p5m0;d", "y:9", 0, 50, 875000000);
        oddsAre("two steps", "sl5p5m0;d", "y:9", 0, 33, 891100000);
        oddsAre("two steps", "sl5p5m0;d", "y:9", 0, 0, ALL);
        oddsAre("two steps", "sl5p5m0;d", "y:9", 0, 100, 0);
        // What is not heard at a step is no chance at all.
        oddsAre("one of two", "sl5p5m0;d", "y:n=5?9", 0, 50, 500000000);
        oddsAre("a ford", "sl5p5m0;d;fx0d1", "y:9", 0, 50, 500000000);
        // Though there is room for one word only, he has it at the second step if the first is silent.
        oddsAre("room for one", "sl5p5w1m0;d", "y:9", 0, 50, 750000000);
    }

    /** "of each 100ths, cut, hear nothing" */
    private static void cut() {
        // 330000000, 108900000, 35937000, 11859210, 3913539 (.3 is cut), 1291467 (.87 is cut).
        oddsAre("five steps", "sl20p5m0;d", "y:9", 0, 33, ALL - 3913539);
        oddsAre("six steps", "sl25p5m0;d", "y:9", 0, 33, ALL - 1291467);
        // 10000000, 100000, 1000, 10, 0 (.1 is cut).
        oddsAre("four steps", "sl15p5m0;d", "y:9", 0, 1, ALL - 10);
        oddsAre("five steps", "sl20p5m0;d", "y:9", 0, 1, ALL);
        // By 99 of 100: 990000000, 980100000, 970299000, 960596010, 950990049 (.9), 941480148 (.51).
        oddsAre("six steps", "sl25p5m0;d", "y:9", 0, 99, ALL - 941480148);
        oddsAre("thirty-one steps", "sl30p1w20m0;d", "y:9", 0, 100, 0);
        oddsAre("thirty-one steps", "sl30p1w20m0;d", "y:9", 0, 0, ALL);
    }

    /** Another one's WORDS take the room, unless they are not heard. */
    private static void room() {
        String law = "y:n=0&r=2?9;y:n=5&r=1?9";
        oddsAre("room for one, behind the other", "sl5p5w1m0;dr1;dr2", law, 0, 0, 0);
        oddsAre("room for one, behind the other", "sl5p5w1m0;dr1;dr2", law, 0, 50, 250000000);
        oddsAre("room for one, behind the other", "sl5p5w1m0;dr1;dr2", law, 0, 100, 0);
        oddsAre("the other himself", "sl5p5w1m0;dr1;dr2", law, 1, 50, 500000000);
        oddsAre("room for two", "sl5p5w2m0;dr1;dr2", law, 0, 0, ALL);
        oddsAre("room for two", "sl5p5w2m0;dr1;dr2", law, 0, 33, 670000000);
        // Twenty of the other's ahead of him: without silence there is no room, by one silence there is.
        String late = "y:n<20&r=2?9;y:n=20&r=1?9";
        oddsAre("behind twenty", "sl30p1w20m0;dr1;dr2", late, 0, 0, 0);
        oddsAre("behind twenty, room for all but one", "sl30p1w19m0;dr1;dr2", late, 0, 0, 0);
        oddsAre("behind nineteen", "sl30p1w20m0;dr1;dr2", "y:n<19&r=2?9;y:n=20&r=1?9", 0, 0, ALL);
        oddsAre("behind twenty", "sl30p1w20m0;dr1;dr2", late, 0, 100, 0);
    }

    /** "parts with as many WORDS SET DOWN so far, he not among them, are put together" */
    private static void groupsAreCutEach() {
        String law = "y:n<25&r=2?9;y:n=25&r=1?9";
        for (int chance = 1; chance < 100; chance += 7) {
            for (int room = 1; room <= 7; room++) {
                oddsAre("five of the other's, room for " + room, "sl25p5w" + room + "m0;dr1;dr2", law, 0, chance,
                    lastOf(6, room, chance));
            }
        }
    }

    /** He is the last of so many STEPS, all others are another's: by parts in a row, as told. */
    private static int lastOf(int steps, int room, int chance) {
        long[] parts = new long[steps + 2];
        parts[0] = ALL;
        for (int step = 1; step < steps; step++) {
            long[] next = new long[steps + 2];
            for (int words = 0; words <= steps; words++) {
                long silent = words >= room ? parts[words] : parts[words] * chance / 100;
                next[words] += silent;
                if (words < room) {
                    next[words + 1] += parts[words] - silent;
                }
            }
            parts = next;
        }
        long named = 0;
        for (int words = 0; words < room && words <= steps; words++) {
            named += parts[words] - parts[words] * chance / 100;
        }
        return (int) named;
    }

    private static void never() {
        oddsAre("never heard", "sm0;d", "y:0", 0, 0, 0);
        oddsAre("never heard", "sm0;d", "y:0", 0, 50, 0);
        oddsAre("always another", "sm0;d;d", "y:9", 1, 50, 0);
    }

    /** By PACE, whatever was asked before. */
    private static void onlyAtEachThatCanBeDivided() {
        for (int pace = 2; pace <= 5; pace++) {
            GallopDispatch x = Check.ride("sl30p" + pace + "w20m0;d");
            Check.hold(x, "y:n=0|n=1|n=7|n=30?9");
            x.gait(0, 0);
            for (int step = 0; step <= 30; step++) {
                x.loudest(step);
            }
            // He is heard at 0, and but for a PACE of 4 at 30.
            check.due("odds by pace " + pace, x.odds(0, 50), pace == 4 ? ALL / 2 : ALL / 4 * 3);
        }
    }

    private static void bySlips() {
        oddsAre("the next one's", "sl5p5m1;d;d", "y:2", 0, 50, 0);
        oddsAre("the next one", "sl5p5m1;d;d", "y:2", 1, 50, 750000000);
        oddsAre("without mud", "sl5p5m0;d;d", "y:2", 0, 50, 750000000);
        oddsAre("heard 3", "sl5p5m1;d;d", "y:3", 0, 50, 750000000);
        // Whether it is a slip goes by who is heard most, not by who is asked for.
        oddsAre("a loud one, no slip", "sl5p5m1;dr9;dr1", "y:r", 1, 50, 0);
        oddsAre("a loud one himself", "sl5p5m1;dr9;dr1", "y:r", 0, 50, 750000000);
        oddsAre("a low one, a slip", "sl5p5m1;dr2;dr0", "y:r", 1, 50, 750000000);
        oddsAre("a slip of the last is the first's", "sl5p5m1;dr0;dr0;dr1", "y:r", 0, 50, 750000000);
    }
}

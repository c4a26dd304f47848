/** Promise 31: who. */
public final class Promise31WhoTest {
    private static Check check;

    public static void main(String[] args) {
        check = new Check("Promise31WhoTest");
        bounds();
        refused();
        atLengthAtMost();
        nobodySeen();
        nineLast();
        nothingFits();
        wordsThatAreNotThere();
        asTold();
        byTheLawThatHolds();
        check.end();
    }

    private static void whoIs(String why, GallopDispatch x, int g, int... due) {
        check.due(why + ": how many for " + g, x.who(g, -1), due.length);
        for (int i = 0; i < due.length; i++) {
            check.due(why + ": who(" + g + ", " + i + ")", x.who(g, i), due[i]);
        }
        check.due(why + ": none behind them", x.who(g, due.length), -1);
        check.due(why + ": none ahead of how many", x.who(g, -2), -1);
    }

    /** "WHO for g (1 .. 9)" */
    private static void bounds() {
        GallopDispatch x = Check.ride("sl30;d;d");
        check.due("g -1", x.who(-1, -1), -1);
        check.due("g 0", x.who(0, -1), -1);
        for (int g = 1; g <= 9; g++) {
            check.due("g " + g, x.who(g, -1), 3);
        }
        check.due("g 10", x.who(10, -1), -1);
        check.due("g 0", x.who(0, 0), -1);
        check.due("g 10", x.who(10, 0), -1);
        for (int wild : Refusal.wildNumbers()) {
            check.due("g " + wild, x.who(wild, -1), -1);
            check.due("i " + wild, x.who(1, wild), -1);
        }
        check.due("without a ride", new GallopDispatch().who(1, -1), -1);
        check.due("without a ride", new GallopDispatch().who(1, 0), -1);
    }

    private static void refused() {
        Refusal.due(check, "who(0, -1)", Rich::made, x -> x.who(0, -1), -1, Refusal.NO_STATUS);
        Refusal.due(check, "who(10, -1)", Rich::made, x -> x.who(10, -1), -1, Refusal.NO_STATUS);
        Refusal.due(check, "who(2, -2)", Rich::made, x -> x.who(2, -2), -1, Refusal.NO_STATUS);
        Refusal.due(check, "who(2, 7)", Rich::made, x -> x.who(2, 7), -1, Refusal.NO_STATUS);
        Refusal.onlyAsks(check, "who(2, -1)", Rich::made, x -> x.who(2, -1));
        Refusal.onlyAsks(check, "who(3, 0)", Rich::made, x -> x.who(3, 0));
    }

    /** "g further on (at LENGTH at most)" */
    private static void atLengthAtMost() {
        for (int g = 1; g <= 9; g++) {
            GallopDispatch x = Check.ride("sl10p1m0;dx8");
            Check.hold(x, "y:d=0&n=10?9");
            x.seen(0, 0, true);
            // From 8 he comes to 9 by 1, to the end by all others.
            if (g == 1) {
                whoIs("seen at the end", x, g);
            } else {
                whoIs("seen at the end", x, g, 0);
            }
            GallopDispatch y = Check.ride("sl10p1m0;dx8");
            Check.hold(y, "y:d=0&n=10?9");
            y.seen(0, 0, false);
            if (g == 1) {
                whoIs("not seen at the end", y, g, 0, 9);
            } else {
                whoIs("not seen at the end", y, g, 9);
            }
            GallopDispatch z = Check.ride("sl10p1m0;dx10");
            Check.hold(z, "y:d=0&n=10?9");
            z.seen(0, 0, true);
            whoIs("at the end he stays", z, g, 0, 9);
            GallopDispatch far = Check.ride("sl30p1m0;dx3");
            Check.hold(far, "y:d=0&n=" + (3 + g) + "?9");
            far.seen(0, 0, true);
            whoIs("exactly g further on", far, g, 0);
        }
    }

    /** Without anything SEEN all of it is so with all. */
    private static void nobodySeen() {
        for (int men = 1; men <= 6; men++) {
            GallopDispatch x = Check.ride("s" + ";d".repeat(men));
            int[] due = new int[men + 1];
            for (int k = 0; k < men; k++) {
                due[k] = k;
            }
            due[men] = 9;
            whoIs(men + " men", x, 1, due);
            whoIs(men + " men", x, 9, due);
        }
    }

    /** "and 9, if it is so with none": the i-th, rising */
    private static void nineLast() {
        GallopDispatch x = Check.ride("sl10p1w5m0;dx1;dx4;dx7");
        Check.hold(x, "y:d=0?9");
        x.seen(0, 0, true);
        // Four on 0 comes behind 1; 1 comes to 8, behind 2; 2 to the end.
        whoIs("as told, too", x, 4, 1, 2, 9);
        x.seen(1, 1, false);
        whoIs("not as told", x, 4, 1);
        GallopDispatch y = Check.ride("sl10p1w5m0;dx1;dx4;dx7");
        Check.hold(y, "y:d=0?9");
        y.seen(0, 0, false);
        whoIs("0 moved away", y, 4, 0);
        whoIs("three on he takes 1's place as the lower", y, 3);
    }

    private static void nothingFits() {
        GallopDispatch x = Check.ride("sl10p1w5m0;dx1;dx4");
        Check.hold(x, "y:d=0?9");
        x.seen(0, 0, true);
        x.seen(0, 1, true);
        for (int g = 1; g <= 9; g++) {
            whoIs("two at once", x, g);
        }
    }

    /** Of a WORD that is not SET DOWN "was" is not so, "was not" is. */
    private static void wordsThatAreNotThere() {
        GallopDispatch x = Check.ride("sl10p1w2m0;dx1;dx4;dx7");
        Check.hold(x, "y:d=0?9");
        x.seen(2, 2, false);
        whoIs("no room for a third", x, 1, 0, 1, 2, 9);
        x.seen(19, 0, false);
        whoIs("no twentieth", x, 1, 0, 1, 2, 9);
        x.seen(2, 2, true);
        whoIs("a third can't be", x, 1);
        GallopDispatch y = Check.ride("sl30p1w20m0;d");
        Check.hold(y, "y:9");
        y.seen(19, 0, true);
        whoIs("the twentieth", y, 1, 0, 9);
        y.seen(19, 0, false);
        whoIs("and its contrary", y, 1);
    }

    /** "of the RIDE as told": what was done since does not count. */
    private static void asTold() {
        GallopDispatch x = Check.ride("sl10p1w5m1c99;dx1v9;dx4v9;dx7v9;fx3d1");
        Check.hold(x, "y:d=0?v");
        x.seen(0, 0, true);
        x.seen(1, 1, true);
        whoIs("as told", x, 1, 0, 1, 2, 9);
        whoIs("two on, into the ford", x, 2, 1, 2, 9);
        x.move(0, 9);
        x.voice(1, 1);
        x.feedHorse(true);
        x.rain(9);
        x.fill(0);
        x.deed(2);
        x.days(3);
        x.years(2, 5L);
        whoIs("as told still", x, 1, 0, 1, 2, 9);
        whoIs("two on still", x, 2, 1, 2, 9);
        x.image();
        x.back();
        whoIs("as told still", x, 2, 1, 2, 9);
    }

    private static void byTheLawThatHolds() {
        GallopDispatch x = Check.ride("sl10p1w5m0;dx1;dx4");
        Check.hold(x, "y:d=0?9");
        x.seen(0, 1, true);
        whoIs("by one law: 0 must come behind", x, 4, 0);
        Check.hold(x, "y:d");
        whoIs("by another: the farther one", x, 4, 1, 9);
        x.law(-1);
        whoIs("by none: he comes nearer", x, 9, 0);
    }
}

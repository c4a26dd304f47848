/** Promise 32: best. */
public final class Promise32BestTest {
    private static Check check;

    public static void main(String[] args) {
        check = new Check("Promise32BestTest");
        bounds();
        refused();
        nothingFits();
        ofSeveralTheLeast();
        theFewest();
        nobodyToo();
        theFirst();
        sixMen();
        toTheTwentieth();
        asTold();
        check.end();
    }

    private static void bounds() {
        GallopDispatch x = Check.ride("sl30;d;d");
        check.due("g -1", x.best(-1), -1);
        check.due("g 0", x.best(0), -1);
        for (int g = 1; g <= 9; g++) {
            check.due("g " + g, x.best(g) >= 0, true);
        }
        check.due("g 10", x.best(10), -1);
        for (int wild : Refusal.wildNumbers()) {
            check.due("g " + wild, x.best(wild), -1);
        }
        check.due("without a ride", new GallopDispatch().best(1), -1);
    }

    /** "NONE: nothing fits, no RIDE, out of bounds" */
    private static void refused() {
        Refusal.due(check, "best(0)", Rich::made, x -> x.best(0), -1, Refusal.NO_STATUS);
        Refusal.due(check, "best(10)", Rich::made, x -> x.best(10), -1, Refusal.NO_STATUS);
        Refusal.onlyAsks(check, "best(2)", Rich::made, x -> x.best(2));
        Refusal.due(check, "best, nothing fits", () -> {
            GallopDispatch x = Rich.made();
            x.seen(0, 0, true);
            x.seen(0, 0, false);
            return x;
        }, x -> x.best(3), -1, Refusal.NO_STATUS);
    }

    private static GallopDispatch road(String law) {
        GallopDispatch x = Check.ride("sl10p1w5m0;dx1;dx4;dx7");
        Check.hold(x, law);
        return x;
    }

    private static void nothingFits() {
        GallopDispatch x = road("y:d=0?9");
        x.seen(0, 2, true);
        for (int g = 1; g <= 9; g++) {
            check.due("2 can't be the first, for " + g, x.best(g), -1);
        }
    }

    /** "of several the least": where all tell the same of all WORDS, the first. */
    private static void ofSeveralTheLeast() {
        check.due("nobody is ever heard", road("y:0").best(1), 0);
        check.due("the same whoever moves", road("y:9").best(1), 0);
        GallopDispatch x = road("y:d=0?9");
        x.seen(0, 0, true);
        x.seen(1, 1, false);
        check.due("one alone fits", x.who(4, -1), 1);
        check.due("all words are as good", x.best(4), 0);
    }

    /** "the WORD for which whom most of these would tell is told by the fewest" */
    private static void theFewest() {
        // Four on: 0 (5): 1 0 2; 1 (8): 0 2 1; 2 (10): 0 1 2; none: 0 1 2.
        // By the first word three tell 0; by the second two tell 1; by the third three tell 2.
        check.due("the second", road("y:d=0?9").best(4), 1);
        // One on nobody changes anything of the order.
        check.due("no word tells anything", road("y:d=0?9").best(1), 0);
        // Nine on, 0 at 10, 1 at 10, 2 at 10: 1 2 0; 0 2 1; 0 1 2; 0 1 2: the first 3, second 2 and 2, third 2.
        check.due("the second before the third", road("y:d=0?9").best(9), 1);
    }

    /** "(nobody, too)" */
    private static void nobodyToo() {
        // Three on: 0 covers 1: 0 2 -; 1 covers nobody, but 2 does him: 0 1 -; 2: 0 1 2; none: 0 1 2.
        check.due("the third: nobody by two", road("y:d=0?9").best(3), 2);
        GallopDispatch x = road("y:d=0?9");
        x.seen(2, 2, false);
        // 0 2 - and 0 1 -: the second tells them apart.
        check.due("two fit", x.who(3, -1), 2);
        check.due("the second", x.best(3), 1);
    }

    /** The first WORD where it tells more than the next. */
    private static void theFirst() {
        GallopDispatch x = Check.ride("sl10p5w5m0;dx4r1;dx4r2;dx4r3");
        Check.hold(x, "y:n=0&d=5&r<3?9;y:n=0&r=3?5;y:n=5&d=0&r=1?9;y:n=5&r=3?5");
        // One on: 0 0, 1 2, 2 2, and 2 2 with none: of the first word two tell alike, of the second three.
        check.due("the first", x.best(1), 0);
        x.seen(0, 2, false);
        check.due("two are left", x.who(1, -1), 2);
        check.due("both words part them", x.best(1), 0);
        x.seen(1, 2, false);
        check.due("one is left", x.who(1, 0), 0);
    }

    /** Seven can fit at most. */
    private static void sixMen() {
        GallopDispatch x = Check.ride("sl30p5w5m0;dx4r1;dx4r2;dx4r3;dx4r4;dx4r5;dx4r6");
        Check.hold(x, "y:n=0&r=6?5;y:n=5&d=0?9;y:n=5&r=6?1");
        // The first word is 5 with all; the second is whoever moved, 5 with him and with none.
        check.due("seven fit", x.who(1, -1), 7);
        check.due("the second", x.best(1), 1);
        x.seen(1, 0, false);
        check.due("six fit", x.who(1, -1), 6);
        check.due("the second still", x.best(1), 1);
    }

    /** "the WORD (0 .. 19)": the last one may be it. */
    private static void toTheTwentieth() {
        GallopDispatch x = Check.ride("sl30p1w20m0;dx0r0;dx1r9");
        // 0 speaks all along; at 19 the other is louder if he stands at 3.
        Check.hold(x, "y:r=9&n=19&d=16?9;y:r=0?5");
        check.due("only the twentieth differs", x.best(2), 19);
        check.due("for another g none differs", x.best(3), 0);
        GallopDispatch y = Check.ride("sl30p1w19m0;dx0r0;dx1r9");
        Check.hold(y, "y:r=9&n=19&d=16?9;y:r=0?5");
        check.due("there is no room for it", y.best(2), 0);
    }

    private static void asTold() {
        GallopDispatch x = Check.ride("sl10p1w5m0c99;dx1;dx4;dx7");
        Check.hold(x, "y:d=0?9");
        x.move(0, 10);
        x.move(1, 0);
        x.feedHorse(true);
        x.days(2);
        check.due("as told for 4", x.best(4), 1);
        check.due("as told for 3", x.best(3), 2);
    }
}

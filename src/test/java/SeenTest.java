/** Promises 30, 31 and 32: SEEN, WHO, LOOK. */
public final class SeenTest {
    public static void main(String[] args) {
        Check check = new Check("SeenTest");
        seen(check);
        who(check);
        oneByOne(check);
        seven(check);
        asTold(check);
        byTheLaw(check);
        check.end();
    }

    /** Heard where they stand alone: words 0, 1, 2 as told. */
    private static GallopDispatch road() {
        GallopDispatch x = Check.ride("sl10p1w5m0c50;dx1;dx4;dx7");
        Check.hold(x, "y:d=0?9");
        return x;
    }

    private static void seen(Check check) {
        GallopDispatch x = road();
        check.due("i 20", x.seen(20, 0, true), -1);
        check.due("i -1", x.seen(-1, 0, true), -1);
        check.due("no such man", x.seen(0, 3, true), -1);
        check.due("no such man", x.seen(0, -1, false), -1);
        check.due("none so far", x.count(8), 0);
        for (int k = 1; k <= 10; k++) {
            check.due("seen", x.seen(19, 2, false), k);
        }
        check.due("an eleventh", x.seen(19, 2, false), -1);
        check.due("ten", x.count(8), 10);
        check.due("no act", x.count(10), 0);
        check.due("it is so with all", x.who(1, -1), 4);
    }

    private static void who(Check check) {
        GallopDispatch x = road();
        x.seen(0, 0, true);
        check.due("one on changes nothing", x.who(1, -1), 4);
        int[] all = {0, 1, 2, 9, -1};
        for (int i = 0; i < 5; i++) {
            check.due("who(1, " + i + ")", x.who(1, i), all[i]);
        }
        check.due("who(1, -2)", x.who(1, -2), -1);
        // Four on: 0 comes behind 1, so the first word would be 1; 1 behind 2; 2 at the end of the road.
        check.due("four on", x.who(4, -1), 3);
        check.due("who(4, 0)", x.who(4, 0), 1);
        check.due("who(4, 1)", x.who(4, 1), 2);
        check.due("who(4, 2)", x.who(4, 2), 9);
        check.due("the second word tells 2, 1, 1", x.best(4), 1);
        x.seen(1, 1, false);
        check.due("only 1 four on", x.who(4, -1), 1);
        check.due("who(4, 0)", x.who(4, 0), 1);
        check.due("who(1, -1)", x.who(1, -1), 0);
        check.due("nothing fits", x.best(1), -1);
        check.due("one fits: all words alike", x.best(4), 0);
        check.due("g 0", x.who(0, -1), -1);
        check.due("g 10", x.who(10, -1), -1);
        check.due("g 0", x.best(0), -1);
        check.due("g 10", x.best(10), -1);
        GallopDispatch y = road();
        // Three on: 0 as loud as 1 at 4, the lowest is set down, so 1 is left out: words 0 and 2.
        check.due("nothing seen", y.who(3, -1), 4);
        // 0: 0 2 -; 1: 0 1 (1 as loud as 2); 2: 0 1 2; none: 0 1 2.
        check.due("the third word: nobody, nobody, 2, 2", y.best(3), 2);
        y.seen(2, 2, true);
        check.due("a third word", y.who(3, -1), 2);
        y.seen(5, 0, false);
        check.due("no sixth word is not 0", y.who(3, -1), 2);
        y.seen(5, 0, true);
        check.due("no sixth word is 0", y.who(3, -1), 0);
    }

    /** Each telling is weighed by itself: what was moved for one is back in its place for the next. */
    private static void oneByOne(Check check) {
        GallopDispatch x = Check.ride("sl20p1w5m0;dx1;dx5;dx9");
        Check.hold(x, "y:d=0?9");
        // Four on: 0 covers 1 (0 2), 1 covers 2 (0 1), 2 at 13 (0 1 2), none (0 1 2).
        x.seen(1, 2, true);
        check.due("0 alone", x.who(4, -1), 1);
        check.due("0", x.who(4, 0), 0);
        GallopDispatch y = Check.ride("sl20p1w5m0;dx1;dx5;dx9");
        Check.hold(y, "y:d=0&n=9?9;y:d=0&n=18?9");
        // They are heard at 9 and 18 alone: nine on 0 comes to 10 and 1 to 14, 2 from 9 to 18.
        check.due("all fit", y.who(9, -1), 4);
        y.seen(0, 2, false);
        check.due("none of them", y.who(9, -1), 0);
        GallopDispatch z = Check.ride("sl20p1w5m0;dx1;dx5;dx9");
        Check.hold(z, "y:d=0&n=9?9");
        z.seen(0, 2, false);
        check.due("2 moved away", z.who(9, -1), 1);
        check.due("2", z.who(9, 0), 2);
        check.due("none is not among them", z.who(9, 1), -1);
        check.due("g 1", z.who(1, 0), 2);
        check.due("look for g 1", z.best(1), 0);
        check.due("look for g 9", z.best(9), 0);
    }

    /** Six men and none: seven fit; the first word parts them best. */
    private static void seven(Check check) {
        GallopDispatch x = Check.ride("sl10p1w1m0;d;d;d;d;d;d");
        check.due("seven", x.who(1, -1), 7);
        check.due("the last", x.who(1, 6), 9);
        check.due("the last but one", x.who(1, 5), 5);
        check.due("none behind", x.who(1, 7), -1);
        // As told 0 is set down first, but he is not if he stands further on.
        check.due("the first word", x.best(1), 0);
        GallopDispatch y = Check.ride("sl10p5w5m0;dx0;dx9");
        Check.hold(y, "y:n=0&d=1?9;y:n=5?r");
        // One on: with 0 the words are 0 0 (at 0 and 5), with 1 and with none 0 alone (at 5).
        check.due("the second word", y.best(1), 1);
        Check.hold(y, "y:n=0&d=1?9;y:n=0&d=9?8");
        // One on: with 0 the word is 0, with 1 nobody, with none 1.
        check.due("the first word", y.best(1), 0);
        Check.hold(y, "y:n=0&d=1?9;y:n=0&d=9?8;y:n=5&d=4?9");
        // One on: with 0 the words are 0 0, with 1 none, with none 1 1: of both words the least.
        check.due("the first of two alike", y.best(1), 0);
    }

    private static void asTold(Check check) {
        GallopDispatch x = road();
        x.seen(0, 0, true);
        x.seen(1, 1, true);
        int before = x.who(2, -1);
        int look = x.best(2);
        x.move(0, 10);
        x.rain(9);
        x.voice(1, 0);
        x.feedHorse(true);
        x.days(2);
        check.due("all as told", x.who(2, -1), before);
        check.due("all as told", x.best(2), look);
        check.due("none moved is among them", x.who(2, before - 1), 9);
        check.due("seen is not undone", x.undo() >= 0 ? x.count(8) : -1, 2);
        x.image();
        x.seen(2, 2, true);
        x.back();
        check.due("seen is not of the image", x.count(8), 3);
    }

    private static void byTheLaw(Check check) {
        GallopDispatch x = road();
        x.seen(0, 2, true);
        check.due("not by this law", x.who(1, -1), 0);
        Check.hold(x, "y:d");
        check.due("by another, the furthest is heard", x.who(1, -1), 4);
    }
}

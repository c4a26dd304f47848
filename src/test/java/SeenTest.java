/** Promises 30, 31 and 32: SEEN, WHO, LOOK. */
public final class SeenTest {
    public static void main(String[] args) {
        Check check = new Check("SeenTest");
        seen(check);
        who(check);
        asTold(check);
        byTheLaw(check);
        check.end();
    }

    /** Heard where they stand alone: words 0, 1, 2 as told. */
    private static GallopDispatch road() {
        GallopDispatch x = Check.ride("sl10p1w5m0c50;dx1;dx4;dx7");
        Check.hold(x, "y:d=0?9");
        return x;
    }

    private static void seen(Check check) {
        GallopDispatch x = road();
        check.due("i 20", x.seen(20, 0, true), -1);
        check.due("i -1", x.seen(-1, 0, true), -1);
        check.due("no such man", x.seen(0, 3, true), -1);
        check.due("no such man", x.seen(0, -1, false), -1);
        check.due("none so far", x.count(8), 0);
        for (int k = 1; k <= 10; k++) {
            check.due("seen", x.seen(19, 2, false), k);
        }
        check.due("an eleventh", x.seen(19, 2, false), -1);
        check.due("ten", x.count(8), 10);
        check.due("no act", x.count(10), 0);
        check.due("it is so with all", x.who(1, -1), 4);
    }

    private static void who(Check check) {
        GallopDispatch x = road();
        x.seen(0, 0, true);
        check.due("one on changes nothing", x.who(1, -1), 4);
        int[] all = {0, 1, 2, 9, -1};
        for (int i = 0; i < 5; i++) {
            check.due("who(1, " + i + ")", x.who(1, i), all[i]);
        }
        check.due("who(1, -2)", x.who(1, -2), -1);
        // Four on: 0 comes behind 1, so the first word would be 1; 1 behind 2; 2 at the end of the road.
        check.due("four on", x.who(4, -1), 3);
        check.due("who(4, 0)", x.who(4, 0), 1);
        check.due("who(4, 1)", x.who(4, 1), 2);
        check.due("who(4, 2)", x.who(4, 2), 9);
        check.due("the second word tells 2, 1, 1", x.best(4), 1);
        x.seen(1, 1, false);
        check.due("only 1 four on", x.who(4, -1), 1);
        check.due("who(4, 0)", x.who(4, 0), 1);
        check.due("who(1, -1)", x.who(1, -1), 0);
        check.due("nothing fits", x.best(1), -1);
        check.due("one fits: all words alike", x.best(4), 0);
        check.due("g 0", x.who(0, -1), -1);
        check.due("g 10", x.who(10, -1), -1);
        check.due("g 0", x.best(0), -1);
        check.due("g 10", x.best(10), -1);
        GallopDispatch y = road();
        // Three on: 0 as loud as 1 at 4, the lowest is set down, so 1 is left out: words 0 and 2.
        check.due("nothing seen", y.who(3, -1), 4);
        // 0: 0 2 -; 1: 0 1 (1 as loud as 2); 2: 0 1 2; none: 0 1 2.
        check.due("the third word: nobody, nobody, 2, 2", y.best(3), 2);
        y.seen(2, 2, true);
        check.due("a third word", y.who(3, -1), 2);
        y.seen(5, 0, false);
        check.due("no sixth word is not 0", y.who(3, -1), 2);
        y.seen(5, 0, true);
        check.due("no sixth word is 0", y.who(3, -1), 0);
    }

    private static void asTold(Check check) {
        GallopDispatch x = road();
        x.seen(0, 0, true);
        x.seen(1, 1, true);
        int before = x.who(2, -1);
        int look = x.best(2);
        x.move(0, 10);
        x.rain(9);
        x.voice(1, 0);
        x.feedHorse(true);
        x.days(2);
        check.due("all as told", x.who(2, -1), before);
        check.due("all as told", x.best(2), look);
        check.due("none moved is among them", x.who(2, before - 1), 9);
        check.due("seen is not undone", x.undo() >= 0 ? x.count(8) : -1, 2);
        x.image();
        x.seen(2, 2, true);
        x.back();
        check.due("seen is not of the image", x.count(8), 3);
    }

    private static void byTheLaw(Check check) {
        GallopDispatch x = road();
        x.seen(0, 2, true);
        check.due("not by this law", x.who(1, -1), 0);
        Check.hold(x, "y:d");
        check.due("by another, the furthest is heard", x.who(1, -1), 4);
    }
}

/** Promises 11 to 17, 20, 21 and 22: acts, STATUS, undoing, the LOG. */
public final class ActsTest {
    public static void main(String[] args) {
        Check check = new Check("ActsTest");
        moves(check);
        voices(check);
        justEnough(check);
        deeds(check);
        horse(check);
        fords(check);
        mud(check);
        day(check);
        lastDay(check);
        mostOfGloryAndCoins(check);
        firstReasonCounts(check);
        undoing(check);
        undoingIsLimited(check);
        logIsLimited(check);
        check.end();
    }

    private static void statusIs(Check check, GallopDispatch x, int... due) {
        for (int what = 0; what < due.length; what++) {
            check.due("status(" + what + ")", x.status(what), due[what]);
        }
        check.due("status(5)", x.status(5), -1);
        check.due("status(-1)", x.status(-1), -1);
    }

    private static void moves(Check check) {
        GallopDispatch x = Check.ride("sl10c12;dx2;dx9");
        check.due("seven steps on", x.move(0, 9), 5);
        check.due("he stands there", x.man(0, 0), 9);
        check.due("six steps back", x.move(1, 3), -1);
        check.due("five steps back", x.move(1, 4), 0);
        check.due("he stands there", x.man(1, 0), 4);
        check.due("it is so, without coins", x.move(1, 4), -1);
        check.due("beyond the road", x.move(1, 11), -1);
        check.due("ahead of the road", x.move(1, -1), -1);
        check.due("no such man", x.move(2, 0), -1);
        check.due("no such man", x.move(-1, 0), -1);
        check.due("too few", x.move(0, 10), -1);
        check.due("coins", x.rule(4), 0);
        statusIs(check, x, 2, 2, 1, 2, 0);
        check.due("acts", x.count(10), 2);
    }

    private static void voices(Check check) {
        GallopDispatch x = Check.ride("sc5;dv5;d");
        check.due("nine", x.voice(0, 9), 3);
        check.due("nought", x.voice(0, 0), 1);
        check.due("it is", x.man(0, 1), 0);
        check.due("the other's is not", x.man(1, 1), 5);
        check.due("it is so", x.voice(0, 0), -1);
        check.due("too few", x.voice(0, 1), -1);
        check.due("ten", x.voice(0, 10), -1);
        check.due("below", x.voice(0, -1), -1);
        check.due("no such man", x.voice(2, 1), -1);
        statusIs(check, x, 1, 2, 1, 1, 0);
    }

    /** As many coins as it costs are enough. */
    private static void justEnough(Check check) {
        check.due("a voice for 2", Check.ride("sc2;d").voice(0, 9), 0);
        check.due("a horse for 3", Check.ride("sp2c3;d").feedHorse(false), 1);
        check.due("a ford for 1", Check.ride("sc1;d;fd1").fill(0), 0);
        check.due("a way of 5 for 5", Check.ride("sc5;d").move(0, 10), 0);
        check.due("a voice for 1", Check.ride("sc1;d").voice(0, 9), -1);
        check.due("a horse for 2", Check.ride("sp2c2;d").feedHorse(false), -1);
        check.due("a way of 5 for 4", Check.ride("sc4;d").move(0, 0), -1);
    }

    private static void deeds(Check check) {
        GallopDispatch x = Check.ride("sc0;de8;d");
        check.due("the ninth", x.deed(0), 9);
        check.due("a tenth", x.deed(0), -1);
        check.due("the other's", x.deed(1), 4);
        check.due("no such man", x.deed(2), -1);
        check.due("no such man", x.deed(-1), -1);
        check.due("deeds", x.man(0, 2), 9);
        check.due("for nothing", x.rule(4), 0);
        statusIs(check, x, 2, 0, 1, 0, 0);
    }

    private static void horse(Check check) {
        GallopDispatch x = Check.ride("sp4c11;d");
        check.due("faster", x.feedHorse(true), 5);
        check.due("too fast", x.feedHorse(true), -1);
        check.due("slower", x.feedHorse(false), 4);
        check.due("slower", x.feedHorse(false), 3);
        check.due("coins", x.rule(4), 2);
        check.due("too few", x.feedHorse(false), -1);
        check.due("pace", x.rule(1), 3);
        statusIs(check, x, 0, 1, 0, 1, 0);
        GallopDispatch slow = Check.ride("sp1c0;d");
        check.due("too slow", slow.feedHorse(false), -1);
        statusIs(check, slow, 0, 1, 0, 0, 0);
    }

    private static void fords(Check check) {
        GallopDispatch x = Check.ride("sc2;d;fx1d1;fx2d2");
        check.due("filled", x.fill(0), 0);
        check.due("nothing to fill", x.fill(0), -1);
        check.due("one less", x.fill(1), 1);
        check.due("too few", x.fill(1), -1);
        check.due("nothing to fill, without coins", x.fill(0), -1);
        check.due("no such ford", x.fill(2), -1);
        check.due("no such ford", x.fill(-1), -1);
        check.due("depth", x.ford(1, 1), 1);
        check.due("where it is", x.ford(1, 0), 2);
        check.due("coins", x.rule(4), 0);
        statusIs(check, x, 2, 0, 2, 1, 0);
    }

    private static void mud(Check check) {
        GallopDispatch x = Check.ride("sm3c0;d");
        check.due("what it was", x.rain(9), 3);
        check.due("what it was", x.rain(0), 9);
        check.due("it is so", x.rain(0), -1);
        check.due("ten", x.rain(10), -1);
        check.due("below", x.rain(-1), -1);
        check.due("mud", x.rule(3), 0);
        statusIs(check, x, 0, 2, 1, 0, 0);
    }

    /** Each is heard where he stands alone: 0 at 0, himself; 1 at 4, whose voice is a slip; 3 stands off the pace. */
    private static void day(Check check) {
        GallopDispatch x = Check.ride("sl10p2w8m1c5;dx0v9;dx4v2;dx8v0;dx5v9");
        Check.hold(x, "y:d=0?v");
        check.due("a day", x.days(1), 1);
        check.due("words", x.log(0, 0), 2);
        check.due("slips", x.log(0, 1), 1);
        check.due("who was mentioned", x.log(0, 2), 0b0101);
        check.due("log(0, 3)", x.log(0, 3), -1);
        check.due("log(0, -1)", x.log(0, -1), -1);
        check.due("log(1, 0)", x.log(1, 0), -1);
        check.due("log(-1, 0)", x.log(-1, 0), -1);
        check.due("glory of 0", x.man(0, 4), 1);
        check.due("glory of 1", x.man(1, 4), 0);
        check.due("glory of 2", x.man(2, 4), 1);
        check.due("coins", x.rule(4), 7);
        check.due("glory of all", x.count(6), 2);
        check.due("three more", x.days(3), 4);
        check.due("glory of 2", x.man(2, 4), 4);
        check.due("coins", x.rule(4), 13);
        check.due("log lines", x.count(9), 4);
        check.due("acts", x.count(10), 4);
        check.due("none", x.days(0), -1);
        check.due("too many", x.days(61), -1);
        check.due("below", x.days(-5), -1);
        check.due("sixty", x.days(60), 64);
        statusIs(check, x, 0, 3, 0, 0, 0);
    }

    private static void lastDay(Check check) {
        GallopDispatch x = Check.ride("d");
        for (int k = 1; k <= 16; k++) {
            check.due("days", x.days(60), 60 * k);
        }
        check.due("beyond the last", x.days(40), -1);
        check.due("nothing of it", x.count(5), 960);
        check.due("years beyond the last", x.years(40, 1L), -1);
        check.due("nothing of it", x.count(5), 960);
        check.due("to the last", x.days(39), 999);
        check.due("one more", x.days(1), -1);
        check.due("by years", x.years(1, 1L), -1);
        check.due("out of bounds comes first", x.days(61), -1);
        check.due("log lines", x.count(9), 60);
        statusIs(check, x, 0, 1, 0, 0, 2);
        check.due("undone", x.undo(), 39);
        check.due("there is room for it", x.days(1), 999);
        x.undo();
        check.due("by years, too", x.years(1, 1L), 999);
    }

    private static void mostOfGloryAndCoins(Check check) {
        GallopDispatch x = Check.ride("sl30p1w20m0c99;dx0;dx1;dx2;dx3;dx4;dx5");
        Check.hold(x, "y:d=0?9;y:n>5&r=1?d");
        check.due("glory a day", x.mentions(0), 15);
        for (int k = 0; k < 2; k++) {
            x.days(60);
        }
        check.due("coins after 120 days", x.rule(4), 99 + 720);
        for (int k = 0; k < 9; k++) {
            x.days(60);
        }
        check.due("coins at most", x.rule(4), 999);
        check.due("glory after 660 days", x.man(0, 4), 9900);
        x.days(6);
        check.due("glory after 666 days", x.man(0, 4), 9990);
        x.days(1);
        check.due("glory at most", x.man(0, 4), 9999);
        check.due("of another", x.man(1, 4), 667);
        check.due("of all", x.count(6), 9999 + 5 * 667);
    }

    private static void firstReasonCounts(Check check) {
        GallopDispatch x = Check.ride("sc0p5;d;fx1d0");
        x.move(1, 99);
        x.voice(1, 99);
        statusIs(check, x, 2, 0, 0, 0, 0);
        x.move(0, 99);
        x.voice(0, 99);
        x.feedHorse(true);
        statusIs(check, x, 2, 3, 0, 0, 0);
        x.move(0, 5);
        x.voice(0, 5);
        x.fill(0);
        statusIs(check, x, 2, 3, 3, 0, 0);
        check.due("no acts", x.count(10), 0);
    }

    private static void undoing(Check check) {
        GallopDispatch x = Check.ride("sl10p2m1c20;dx2v5e2;fx4d2");
        x.move(0, 5);
        x.voice(0, 9);
        x.deed(0);
        x.feedHorse(true);
        x.fill(0);
        x.rain(7);
        x.days(1);
        x.move(9, 9);
        check.due("coins", x.rule(4), 12);
        check.due("the day", x.undo(), 6);
        check.due("day", x.count(5), 0);
        check.due("glory", x.man(0, 4), 0);
        check.due("the log", x.count(9), 0);
        check.due("coins", x.rule(4), 11);
        check.due("the rain", x.undo(), 5);
        check.due("mud", x.rule(3), 1);
        check.due("the ford", x.undo(), 4);
        check.due("depth", x.ford(0, 1), 2);
        check.due("coins", x.rule(4), 12);
        check.due("the horse", x.undo(), 3);
        check.due("pace", x.rule(1), 2);
        check.due("coins", x.rule(4), 15);
        check.due("the deed", x.undo(), 2);
        check.due("deeds", x.man(0, 2), 2);
        check.due("the voice", x.undo(), 1);
        check.due("voice", x.man(0, 1), 5);
        check.due("coins", x.rule(4), 17);
        check.due("the move", x.undo(), 0);
        check.due("he stands", x.man(0, 0), 2);
        check.due("coins", x.rule(4), 20);
        check.due("nothing more", x.undo(), -1);
        check.due("status is not undone", x.status(0), 1);
    }

    private static void undoingIsLimited(Check check) {
        GallopDispatch x = Check.ride("sm0;d");
        for (int k = 1; k <= 41; k++) {
            x.rain(k % 2 == 0 ? 1 : 2);
            check.due("acts", x.count(10), Math.min(40, k));
        }
        for (int k = 39; k >= 0; k--) {
            check.due("undo", x.undo(), k);
        }
        check.due("the oldest stays done", x.rule(3), 2);
        check.due("nothing more", x.undo(), -1);
        GallopDispatch y = Check.ride("d");
        y.days(60);
        check.due("each day is an act", y.count(10), 40);
        for (int k = 39; k >= 0; k--) {
            check.due("undo", y.undo(), k);
        }
        check.due("the day", y.count(5), 20);
        check.due("the log", y.count(9), 20);
    }

    /** The first line has no words, all others have; undoing brings the first one back among the sixty. */
    private static void logIsLimited(Check check) {
        GallopDispatch x = Check.ride("sl10p5w3;d");
        Check.hold(x, "y:0");
        x.days(1);
        x.law(-1);
        x.days(59);
        check.due("lines", x.count(9), 60);
        check.due("the latest", x.log(0, 0), 1);
        check.due("the first one is there", x.log(59, 0), 0);
        check.due("log(60, 0)", x.log(60, 0), -1);
        x.days(40);
        check.due("lines", x.count(9), 60);
        check.due("the first one is told no more", x.log(59, 0), 1);
        check.due("log(60, 0)", x.log(60, 0), -1);
        for (int k = 0; k < 40; k++) {
            x.undo();
        }
        check.due("the first one is back", x.log(59, 0), 0);
        check.due("the one behind it", x.log(58, 0), 1);
        check.due("day", x.count(5), 60);
    }
}

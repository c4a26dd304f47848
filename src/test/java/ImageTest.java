/** Promises 43, 44 and 45: IMAGE, BACK, count. */
public final class ImageTest {
    public static void main(String[] args) {
        Check check = new Check("ImageTest");
        backAndForth(check);
        logOfTheImage(check);
        linesOfTheImage(check);
        counts(check);
        check.end();
    }

    private static void backAndForth(Check check) {
        GallopDispatch x = Check.ride("sl10p2m1c40;dx2v5e2;dx8;fx4d2");
        check.due("no image so far", x.back(), -1);
        x.days(3);
        x.move(0, 3);
        check.due("the day", x.image(), 3);
        int coins = x.rule(4);
        int glory = x.man(0, 4);
        x.move(0, 9);
        x.voice(0, 7);
        x.deed(0);
        x.feedHorse(true);
        x.fill(0);
        x.rain(8);
        x.storm(5);
        x.days(4);
        x.seen(0, 0, true);
        Check.hold(x, "y:6");
        x.move(7, 7);
        check.due("back", x.back(), 3);
        check.due("stands", x.man(0, 0), 3);
        check.due("voice", x.man(0, 1), 5);
        check.due("deeds", x.man(0, 2), 2);
        check.due("glory", x.man(0, 4), glory);
        check.due("depth", x.ford(0, 1), 2);
        check.due("pace", x.rule(1), 2);
        check.due("mud", x.rule(3), 1);
        check.due("coins", x.rule(4), coins);
        check.due("day", x.count(5), 3);
        check.due("log", x.count(9), 3);
        check.due("no acts", x.count(10), 0);
        check.due("undo", x.undo(), -1);
        check.due("the law still holds", x.count(4), 0);
        check.due("storm stays", x.count(7), 5);
        check.due("seen stays", x.count(8), 1);
        check.due("status stays", x.status(0), 1);
        x.days(1);
        check.due("acts again", x.undo(), 0);
        check.due("the image stays", x.back(), 3);
        x.days(2);
        check.due("another instead", x.image(), 5);
        x.undo();
        check.due("back to the other", x.back(), 5);
    }

    private static void logOfTheImage(Check check) {
        GallopDispatch x = Check.ride("sl10p5w3;d");
        Check.hold(x, "y:0");
        x.days(30);
        x.law(-1);
        x.days(40);
        x.image();
        x.days(60);
        check.due("all lines are of the later days", x.log(59, 0), 1);
        check.due("back", x.back(), 70);
        check.due("lines", x.count(9), 60);
        check.due("the latest", x.log(0, 0), 1);
        check.due("the fortieth", x.log(39, 0), 1);
        check.due("the one ahead of it", x.log(40, 0), 0);
        check.due("the last", x.log(59, 0), 0);
        check.due("none behind it", x.log(60, 0), -1);
        x.days(1);
        check.due("moved on by one", x.log(41, 0), 0);
        check.due("moved on by one", x.log(40, 0), 1);
        x.undo();
        check.due("and back", x.log(40, 0), 0);
        check.due("the last", x.log(59, 0), 0);
    }

    private static void linesOfTheImage(Check check) {
        GallopDispatch x = Check.ride("sl10p5w3m1;dr1;dr2");
        Check.hold(x, "y:r=1?1");
        x.days(60);
        x.image();
        Check.hold(x, "y:r=1&n<1?9");
        x.days(60);
        for (int turn = 0; turn < 2; turn++) {
            // The latest line and the oldest, which a later day's line was written over.
            for (int i = 0; i < 60; i += 59) {
                check.due("words", x.log(i, 0), turn == 0 ? 1 : 3);
                check.due("slips", x.log(i, 1), turn == 0 ? 0 : 3);
                check.due("who was mentioned", x.log(i, 2), turn == 0 ? 1 : 2);
            }
            check.due("back", x.back(), 60);
        }
    }

    private static void counts(Check check) {
        GallopDispatch x = Check.ride("sl10p5w3m0;d;d;fx1;fx2;fx3");
        Check.tell(x, "y:1", 1);
        Check.hold(x, "y:9");
        x.storm(3);
        x.days(2);
        x.rain(1);
        x.seen(0, 0, false);
        Check.feed(x, "dx1");
        int[] due = {2, 3, 2, 3, 1, 2, 6, 3, 1, 2, 3};
        for (int what = 0; what < due.length; what++) {
            check.due("count(" + what + ")", x.count(what), due[what]);
        }
        check.due("count(11)", x.count(11), GallopDispatch.HIDDEN);
        check.due("count(-1)", x.count(-1), GallopDispatch.HIDDEN);
    }
}

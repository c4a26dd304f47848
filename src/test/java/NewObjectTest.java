/** Promises 1 and 45, and what each call answers while there is no RIDE. */
public final class NewObjectTest {
    public static void main(String[] args) {
        Check check = new Check("NewObjectTest");
        counts(check);
        actsAreRefused(check);
        questionsAreRefused(check);
        check.end();
    }

    private static void counts(Check check) {
        GallopDispatch x = new GallopDispatch();
        int[] due = {0, 0, 0, 0, -1, 0, 0, 0, 0, 0, 0};
        for (int what = 0; what < due.length; what++) {
            check.due("count(" + what + ") of a new object", x.count(what), due[what]);
        }
        check.due("count(11)", x.count(11), GallopDispatch.HIDDEN);
        check.due("count(-1)", x.count(-1), GallopDispatch.HIDDEN);
        for (int what = 0; what < 5; what++) {
            check.due("status(" + what + ") of a new object", x.status(what), 0);
        }
    }

    private static void actsAreRefused(Check check) {
        GallopDispatch x = new GallopDispatch();
        check.due("move", x.move(0, 99), -1);
        check.due("voice", x.voice(0, 99), -1);
        check.due("deed", x.deed(0), -1);
        check.due("feedHorse", x.feedHorse(false), -1);
        check.due("fill", x.fill(0), -1);
        check.due("rain", x.rain(99), -1);
        check.due("days", x.days(99), -1);
        check.due("all seven as there was no such one", x.status(0), 7);
        check.due("none as out of bounds", x.status(1), 0);
        check.due("years", x.years(1, 5L), -1);
        check.due("undo", x.undo(), -1);
        check.due("image", x.image(), -1);
        check.due("back", x.back(), -1);
        check.due("seen", x.seen(0, 0, true), -1);
        check.due("years, undo, image, back, seen have no STATUS", x.status(0), 7);
    }

    private static void questionsAreRefused(Check check) {
        GallopDispatch x = new GallopDispatch();
        for (int what = 0; what < 6; what++) {
            check.due("rule", x.rule(what), -1);
            check.due("ride", x.ride(what), -1);
            check.due("most", x.most(what), -1);
            check.dueNoSuchElement("man", x, 0, what);
        }
        check.due("ford", x.ford(0, 0), -1);
        check.due("heard", x.heard(0, 0), -1);
        check.due("log", x.log(0, 0), -1);
        check.due("words, how many", x.words(-1), -1);
        check.due("words", x.words(0), -1);
        check.due("mentions", x.mentions(0), -1);
        check.due("stand", x.stand(0, 0), -1);
        check.due("gait", x.gait(0, 0), -1);
        check.due("put", x.put(0), -1);
        check.due("least", x.least(0), -1);
        check.due("who", x.who(1, -1), -1);
        check.due("best", x.best(1), -1);
        check.due("pension", x.pension(0, 1, 1), -1);
        check.due("unfair", x.unfair(1), -1);
        check.due("game", x.game(0, 1, 0, 0, 0), GallopDispatch.HIDDEN);
        check.due("rests", x.rests(0, 1, -1), -1);
        check.due("odds", x.odds(0, 0), -1);
        check.due("loudest", x.loudest(0), -1);
        check.due("span", x.span(0), -1);
        check.due("nearest", x.nearest(0), -1);
        check.due("ahead", x.ahead(0, 1), -1);
    }
}

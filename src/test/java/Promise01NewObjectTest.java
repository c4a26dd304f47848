/** Promise 1: a new object has no RIDE, and nothing else; all that asks for one is refused. */
public final class Promise01NewObjectTest {
    public static void main(String[] args) {
        Check check = new Check("Promise01NewObjectTest");
        counts(check);
        actsAreRefused(check);
        questionsAreRefused(check);
        refusalsChangeNothing(check);
        lawsNeedNoRide(check);
        objectsAreApart(check);
        lastOfItsCalls(check);
        check.end();
    }

    private static void counts(Check check) {
        GallopDispatch x = new GallopDispatch();
        int[] due = {0, 0, 0, 0, -1, 0, 0, 0, 0, 0, 0};
        for (int what = 0; what < due.length; what++) {
            check.due("count(" + what + ") of a new object", x.count(what), due[what]);
        }
        check.due("count(11)", x.count(11), GallopDispatch.HIDDEN);
        check.due("count(-1)", x.count(-1), GallopDispatch.HIDDEN);
        for (int what = 0; what < 5; what++) {
            check.due("status(" + what + ") of a new object", x.status(what), 0);
        }
    }

    private static void actsAreRefused(Check check) {
        GallopDispatch x = new GallopDispatch();
        check.due("move", x.move(0, 99), -1);
        check.due("voice", x.voice(0, 99), -1);
        check.due("deed", x.deed(0), -1);
        check.due("feedHorse", x.feedHorse(false), -1);
        check.due("fill", x.fill(0), -1);
        check.due("rain", x.rain(99), -1);
        check.due("days", x.days(99), -1);
        check.due("all seven as there was no such one", x.status(0), 7);
        check.due("none as out of bounds", x.status(1), 0);
        check.due("years", x.years(1, 5L), -1);
        check.due("undo", x.undo(), -1);
        check.due("image", x.image(), -1);
        check.due("back", x.back(), -1);
        check.due("seen", x.seen(0, 0, true), -1);
        check.due("years, undo, image, back, seen have no STATUS", x.status(0), 7);
    }

    private static void questionsAreRefused(Check check) {
        GallopDispatch x = new GallopDispatch();
        for (int what = 0; what < 6; what++) {
            check.due("rule", x.rule(what), -1);
            check.due("ride", x.ride(what), -1);
            check.due("most", x.most(what), -1);
            check.dueNoSuchElement("man", x, 0, what);
        }
        check.due("ford", x.ford(0, 0), -1);
        check.due("heard", x.heard(0, 0), -1);
        check.due("log", x.log(0, 0), -1);
        check.due("words, how many", x.words(-1), -1);
        check.due("words", x.words(0), -1);
        check.due("mentions", x.mentions(0), -1);
        check.due("stand", x.stand(0, 0), -1);
        check.due("gait", x.gait(0, 0), -1);
        check.due("put", x.put(0), -1);
        check.due("least", x.least(0), -1);
        check.due("who", x.who(1, -1), -1);
        check.due("best", x.best(1), -1);
        check.due("pension", x.pension(0, 1, 1), -1);
        check.due("unfair", x.unfair(1), -1);
        check.due("game", x.game(0, 1, 0, 0, 0), GallopDispatch.HIDDEN);
        check.due("rests", x.rests(0, 1, -1), -1);
        check.due("odds", x.odds(0, 0), -1);
        check.due("loudest", x.loudest(0), -1);
        check.due("span", x.span(0), -1);
        check.due("nearest", x.nearest(0), -1);
        check.due("ahead", x.ahead(0, 1), -1);
    }

    private static GallopDispatch withoutRide() {
        GallopDispatch x = new GallopDispatch();
        Check.hold(x, "y:v-d");
        x.storm(3);
        Check.feed(x, "y:7");
        return x;
    }

    /** "What is refused answers as told and changes nothing but STATUS", without a RIDE. */
    private static void refusalsChangeNothing(Check check) {
        Refusal.due(check, "move", Promise01NewObjectTest::withoutRide, x -> x.move(0, 1), -1, 0);
        Refusal.due(check, "voice", Promise01NewObjectTest::withoutRide, x -> x.voice(0, 1), -1, 0);
        Refusal.due(check, "deed", Promise01NewObjectTest::withoutRide, x -> x.deed(0), -1, 0);
        Refusal.due(check, "feedHorse", Promise01NewObjectTest::withoutRide, x -> x.feedHorse(true), -1, 0);
        Refusal.due(check, "fill", Promise01NewObjectTest::withoutRide, x -> x.fill(0), -1, 0);
        Refusal.due(check, "rain", Promise01NewObjectTest::withoutRide, x -> x.rain(1), -1, 0);
        Refusal.due(check, "days", Promise01NewObjectTest::withoutRide, x -> x.days(1), -1, 0);
        Refusal.due(check, "years", Promise01NewObjectTest::withoutRide, x -> x.years(1, 1L), -1, -1);
        Refusal.due(check, "undo", Promise01NewObjectTest::withoutRide, x -> x.undo(), -1, -1);
        Refusal.due(check, "image", Promise01NewObjectTest::withoutRide, x -> x.image(), -1, -1);
        Refusal.due(check, "back", Promise01NewObjectTest::withoutRide, x -> x.back(), -1, -1);
        Refusal.due(check, "seen", Promise01NewObjectTest::withoutRide, x -> x.seen(0, 0, true), -1, -1);
    }

    /** "No RIDE": TAPE, LAWS, STORM and STATUS need none. */
    private static void lawsNeedNoRide(Check check) {
        GallopDispatch x = withoutRide();
        check.due("bytes", x.count(3), 3);
        check.due("a second law", x.text(1), 1);
        check.due("laws", x.count(2), 2);
        check.due("which holds", x.count(4), 0);
        check.due("the storm", x.count(7), 3);
        check.due("still no men", x.count(0), 0);
        check.due("still no rule", x.rule(0), -1);
    }

    /** One object's RIDE is not another one's. */
    private static void objectsAreApart(Check check) {
        GallopDispatch x = Rich.made();
        counts(check);
        GallopDispatch y = new GallopDispatch();
        x.days(1);
        check.due("no ride there", y.rule(0), -1);
        check.due("no law there", y.law(0), false);
        check.due("nothing to undo there", y.undo(), -1);
        check.due("no image there", y.back(), -1);
        check.due("no status there", y.status(0), 0);
    }

    /** "An object is used for at most 512 calls after it has been made": the last of them is as good as the first. */
    private static void lastOfItsCalls(Check check) {
        GallopDispatch x = new GallopDispatch();
        x.feed(0x64000000, 0, 0, 0, 0);
        x.text(0);
        for (int call = 3; call < 512; call++) {
            check.due("call " + call, x.rain(call % 2 == 0 ? 1 : 3), call == 3 ? 2 : call % 2 == 0 ? 3 : 1);
        }
        check.due("the 512th", x.undo(), 39);
    }
}

/** Promise 14: feedHorse. */
public final class Promise14FeedHorseTest {
    private static Check check;

    public static void main(String[] args) {
        check = new Check("Promise14FeedHorseTest");
        oneToFive();
        justEnough();
        noRide();
        beyond();
        tooFew();
        ofSeveralTheFirst();
        anAct();
        check.end();
    }

    /** "PACE one more or less (1 .. 5; 3 COINS)" */
    private static void oneToFive() {
        GallopDispatch x = Check.ride("sp1c99;d");
        check.due("slower than 1", x.feedHorse(false), -1);
        for (int pace = 2; pace <= 5; pace++) {
            check.due("faster", x.feedHorse(true), pace);
            check.due("pace", x.rule(1), pace);
        }
        check.due("faster than 5", x.feedHorse(true), -1);
        check.due("still 5", x.rule(1), 5);
        check.due("coins", x.rule(4), 99 - 12);
        for (int pace = 4; pace >= 1; pace--) {
            check.due("slower", x.feedHorse(false), pace);
        }
        check.due("slower than 1", x.feedHorse(false), -1);
        check.due("still 1", x.rule(1), 1);
        check.due("coins", x.rule(4), 99 - 24);
        check.due("status(1)", x.status(1), 3);
    }

    private static void justEnough() {
        for (int coins = 0; coins <= 5; coins++) {
            GallopDispatch x = Check.ride("sp3c" + coins + ";d");
            check.due("faster for " + coins, x.feedHorse(true), coins < 3 ? -1 : 4);
            check.due("coins", x.rule(4), coins < 3 ? coins : coins - 3);
            check.due("status(3)", x.status(3), coins < 3 ? 1 : 0);
            GallopDispatch y = Check.ride("sp3c" + coins + ";d");
            check.due("slower for " + coins, y.feedHorse(false), coins < 3 ? -1 : 2);
        }
    }

    private static void noRide() {
        GallopDispatch x = new GallopDispatch();
        check.due("faster", x.feedHorse(true), -1);
        check.due("slower", x.feedHorse(false), -1);
        check.due("status(0)", x.status(0), 2);
        check.due("status(1)", x.status(1), 0);
        check.due("status(3)", x.status(3), 0);
    }

    private static GallopDispatch atPace(int pace, int coins) {
        GallopDispatch x = Check.ride(Rich.RIDE.replace("p2", "p" + pace).replace("c3", "c" + coins));
        x.days(2);
        x.image();
        x.move(0, 1);
        return x;
    }

    /** "beyond 1 .. 5 (1)" */
    private static void beyond() {
        Refusal.due(check, "slower than 1", () -> atPace(1, 90), x -> x.feedHorse(false), -1, 1);
        Refusal.due(check, "faster than 5", () -> atPace(5, 90), x -> x.feedHorse(true), -1, 1);
    }

    /** "too few COINS (3)" */
    private static void tooFew() {
        Refusal.due(check, "faster for 2", () -> Rich.withCoins(2), x -> x.feedHorse(true), -1, 3);
        Refusal.due(check, "slower for 2", () -> Rich.withCoins(2), x -> x.feedHorse(false), -1, 3);
        Refusal.due(check, "faster for none", () -> Rich.withCoins(0), x -> x.feedHorse(true), -1, 3);
    }

    private static void ofSeveralTheFirst() {
        GallopDispatch slow = Check.ride("sp1c0;d");
        slow.feedHorse(false);
        check.due("beyond, without a coin: status(1)", slow.status(1), 1);
        check.due("status(3)", slow.status(3), 0);
        slow.feedHorse(true);
        check.due("within, without a coin: status(1)", slow.status(1), 1);
        check.due("status(3)", slow.status(3), 1);
        GallopDispatch fast = Check.ride("sp5c0;d");
        fast.feedHorse(true);
        check.due("beyond, without a coin: status(1)", fast.status(1), 1);
        fast.feedHorse(false);
        check.due("within, without a coin: status(3)", fast.status(3), 1);
    }

    private static void anAct() {
        GallopDispatch x = Check.ride("sp2c9;d");
        x.feedHorse(true);
        x.feedHorse(false);
        check.due("acts", x.count(10), 2);
        check.due("undone", x.undo(), 1);
        check.due("pace", x.rule(1), 3);
        check.due("undone", x.undo(), 0);
        check.due("pace", x.rule(1), 2);
        check.due("coins", x.rule(4), 9);
    }
}

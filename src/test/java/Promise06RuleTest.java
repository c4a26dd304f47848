/** Promise 6: rule. */
public final class Promise06RuleTest {
    private static Check check;

    public static void main(String[] args) {
        check = new Check("Promise06RuleTest");
        withoutItems();
        leastAndGreatest();
        asTheyAreNow();
        noSuchWhat();
        noRide();
        check.end();
    }

    private static void rulesAre(String why, GallopDispatch x, int... due) {
        for (int what = 0; what < 5; what++) {
            check.due(why + ": rule(" + what + ")", x.rule(what), due[what]);
        }
    }

    /** "20 without", "2", "8", "2", "30" */
    private static void withoutItems() {
        rulesAre("no s", Check.ride("d"), 20, 2, 8, 2, 30);
        rulesAre("a bare s", Check.ride("s;d"), 20, 2, 8, 2, 30);
        rulesAre("l alone", Check.ride("sl9;d"), 9, 2, 8, 2, 30);
        rulesAre("p alone", Check.ride("sp3;d"), 20, 3, 8, 2, 30);
        rulesAre("w alone", Check.ride("sw9;d"), 20, 2, 9, 2, 30);
        rulesAre("m alone", Check.ride("sm3;d"), 20, 2, 8, 3, 30);
        rulesAre("c alone", Check.ride("sc31;d"), 20, 2, 8, 2, 31);
    }

    private static void leastAndGreatest() {
        rulesAre("the least", Check.ride("sl5p1w1m0c0;d"), 5, 1, 1, 0, 0);
        rulesAre("the greatest", Check.ride("sl30p5w20m9c99;d"), 30, 5, 20, 9, 99);
        rulesAre("with noughts ahead", Check.ride("sc09m09w09p05l09;d"), 9, 5, 9, 9, 9);
        rulesAre("behind the men", Check.ride("d;f;sw7;d"), 20, 2, 7, 2, 30);
    }

    private static void asTheyAreNow() {
        GallopDispatch x = Check.ride("sl12p2w4m1c20;dx2;fx4d1");
        x.feedHorse(true);
        rulesAre("fed", x, 12, 3, 4, 1, 17);
        x.rain(9);
        rulesAre("rain", x, 12, 3, 4, 9, 17);
        x.move(0, 12);
        rulesAre("moved", x, 12, 3, 4, 9, 7);
        x.voice(0, 9);
        rulesAre("voice", x, 12, 3, 4, 9, 5);
        x.fill(0);
        rulesAre("filled", x, 12, 3, 4, 9, 4);
        x.deed(0);
        rulesAre("a deed", x, 12, 3, 4, 9, 4);
        x.days(1);
        rulesAre("a day, one man mentioned", x, 12, 3, 4, 9, 5);
        x.undo();
        rulesAre("undone", x, 12, 3, 4, 9, 4);
    }

    private static void noSuchWhat() {
        Refusal.due(check, "rule(-1)", Rich::made, x -> x.rule(-1), -1, Refusal.NO_STATUS);
        Refusal.due(check, "rule(5)", Rich::made, x -> x.rule(5), -1, Refusal.NO_STATUS);
        for (int what : Refusal.wildNumbers()) {
            check.due("rule(" + what + ")", Rich.made().rule(what), -1);
        }
        for (int k = 0; k < 5; k++) {
            int what = k;
            Refusal.onlyAsks(check, "rule(" + what + ")", Rich::made, x -> x.rule(what));
        }
    }

    private static void noRide() {
        GallopDispatch x = new GallopDispatch();
        for (int what = -1; what <= 5; what++) {
            check.due("rule(" + what + ") without a ride", x.rule(what), -1);
        }
    }
}

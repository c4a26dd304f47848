/** Promise 17: days, and what a DAY brings. */
public final class Promise17DaysTest {
    private static Check check;

    public static void main(String[] args) {
        check = new Check("Promise17DaysTest");
        oneToSixty();
        noRide();
        outOfBounds();
        lastDay();
        beyondTheLastDay();
        ofSeveralTheFirst();
        gloryAtMost();
        coinsAtMost();
        coinsByMenNotByWords();
        aDayWithoutWords();
        eachDayIsAnAct();
        check.end();
    }

    /** "DAYS (1 .. 60): the DAY" */
    private static void oneToSixty() {
        int[] numbers = {-1, 0, 1, 2, 59, 60, 61};
        for (int n : numbers) {
            GallopDispatch x = Check.ride("d");
            boolean go = n >= 1 && n <= 60;
            check.due("days(" + n + ")", x.days(n), go ? n : -1);
            check.due("the day", x.count(5), go ? n : 0);
            check.due("status(1)", x.status(1), go ? 0 : 1);
            check.due("again", x.days(n), go ? 2 * n : -1);
        }
    }

    private static void noRide() {
        GallopDispatch x = new GallopDispatch();
        check.due("days(1)", x.days(1), -1);
        check.due("days(0)", x.days(0), -1);
        check.due("days(61)", x.days(61), -1);
        check.due("status(0)", x.status(0), 3);
        check.due("status(1)", x.status(1), 0);
        check.due("the day", x.count(5), 0);
    }

    private static void outOfBounds() {
        Refusal.due(check, "days(0)", Rich::made, x -> x.days(0), -1, 1);
        Refusal.due(check, "days(-1)", Rich::made, x -> x.days(-1), -1, 1);
        Refusal.due(check, "days(61)", Rich::made, x -> x.days(61), -1, 1);
        for (int wild : Refusal.wildNumbers()) {
            GallopDispatch x = Rich.made();
            check.due("days(" + wild + ")", x.days(wild), -1);
            check.due("status(1)", x.status(1), 2);
            check.due("the day", x.count(5), 7);
        }
    }

    /** "999 at most: none goes by then" */
    private static void lastDay() {
        check.due("938 and 60", Rich.onDay(938).days(60), 998);
        check.due("939 and 60", Rich.onDay(939).days(60), 999);
        check.due("940 and 60", Rich.onDay(940).days(60), -1);
        check.due("940 and 59", Rich.onDay(940).days(59), 999);
        check.due("997 and 1", Rich.onDay(997).days(1), 998);
        check.due("998 and 1", Rich.onDay(998).days(1), 999);
        check.due("998 and 2", Rich.onDay(998).days(2), -1);
        check.due("999 and 1", Rich.onDay(999).days(1), -1);
        GallopDispatch x = Rich.onDay(999);
        check.due("the day", x.count(5), 999);
        x.undo();
        check.due("the day before", x.count(5), 998);
        check.due("the last one again", x.days(1), 999);
        x.back();
        check.due("long before", x.days(1), 6);
    }

    /** "beyond 999 (4)": none of them goes by. */
    private static void beyondTheLastDay() {
        Refusal.due(check, "940 and 60", () -> Rich.onDay(940), x -> x.days(60), -1, 4);
        Refusal.due(check, "998 and 2", () -> Rich.onDay(998), x -> x.days(2), -1, 4);
        Refusal.due(check, "999 and 1", () -> Rich.onDay(999), x -> x.days(1), -1, 4);
        Refusal.due(check, "999 and 60", () -> Rich.onDay(999), x -> x.days(60), -1, 4);
    }

    private static void ofSeveralTheFirst() {
        Refusal.due(check, "61 on day 999", () -> Rich.onDay(999), x -> x.days(61), -1, 1);
        Refusal.due(check, "0 on day 999", () -> Rich.onDay(999), x -> x.days(0), -1, 1);
        Refusal.due(check, "MAX on day 999", () -> Rich.onDay(999), x -> x.days(Integer.MAX_VALUE), -1, 1);
    }

    /** "GLORY of each MAN (0 at first; 9,999 at most)": 20 a DAY. */
    private static void gloryAtMost() {
        GallopDispatch x = Check.ride("sl30p1w20m0;d;d");
        Check.hold(x, "y:9");
        check.due("glory at first", x.man(0, 4), 0);
        for (int k = 0; k < 8; k++) {
            x.days(60);
        }
        x.days(19);
        check.due("day 499", x.man(0, 4), 9980);
        x.days(1);
        check.due("day 500", x.man(0, 4), 9999);
        x.days(1);
        check.due("day 501", x.man(0, 4), 9999);
        check.due("the other's", x.man(1, 4), 0);
        check.due("of all", x.count(6), 9999);
        x.undo();
        check.due("still so", x.man(0, 4), 9999);
        x.undo();
        check.due("undone", x.man(0, 4), 9980);
        // Exactly 9,999 is met by 11 words a day on day 909.
        GallopDispatch y = Check.ride("sl30p1w11m0;d");
        Check.hold(y, "y:9");
        for (int k = 0; k < 15; k++) {
            y.days(60);
        }
        y.days(8);
        check.due("day 908", y.man(0, 4), 9988);
        y.days(1);
        check.due("day 909", y.man(0, 4), 9999);
        y.days(1);
        check.due("day 910", y.man(0, 4), 9999);
    }

    private static GallopDispatch sixMentioned(int coins) {
        GallopDispatch x = Check.ride("sl5p1w20m0c" + coins + ";dx0;dx1;dx2;dx3;dx4;dx5");
        Check.hold(x, "y:d=0?9");
        return x;
    }

    /** "COINS more by how many MEN were MENTIONED (999 at most)" */
    private static void coinsAtMost() {
        GallopDispatch x = sixMentioned(99);
        x.days(60);
        x.days(60);
        x.days(29);
        check.due("day 149", x.rule(4), 993);
        x.days(1);
        check.due("day 150, exactly", x.rule(4), 999);
        x.days(1);
        check.due("day 151", x.rule(4), 999);
        GallopDispatch y = sixMentioned(98);
        y.days(60);
        y.days(60);
        y.days(30);
        check.due("day 150", y.rule(4), 998);
        y.days(1);
        check.due("day 151, held", y.rule(4), 999);
        check.due("spent again", y.voice(0, 9), 997);
        y.days(1);
        check.due("held again", y.rule(4), 999);
        y.undo();
        check.due("undone", y.rule(4), 997);
    }

    private static void coinsByMenNotByWords() {
        GallopDispatch x = Check.ride("sl30p1w20m0c0;d;d;d");
        Check.hold(x, "y:9");
        x.days(1);
        check.due("one man, twenty words", x.rule(4), 1);
        check.due("glory", x.man(0, 4), 20);
        check.due("words", x.log(0, 0), 20);
        check.due("who", x.log(0, 2), 1);
        GallopDispatch y = sixMentioned(0);
        y.days(1);
        check.due("six men", y.rule(4), 6);
        check.due("who", y.log(0, 2), 63);
    }

    private static void aDayWithoutWords() {
        GallopDispatch x = Check.ride("sc7;d");
        Check.hold(x, "y:0");
        check.due("a day", x.days(1), 1);
        check.due("coins", x.rule(4), 7);
        check.due("glory", x.man(0, 4), 0);
        check.due("words", x.log(0, 0), 0);
        check.due("slips", x.log(0, 1), 0);
        check.due("who", x.log(0, 2), 0);
        check.due("lines", x.count(9), 1);
    }

    /** "All these (each DAY) are ACTS" */
    private static void eachDayIsAnAct() {
        int[] numbers = {1, 2, 39, 40, 41, 60};
        for (int n : numbers) {
            GallopDispatch x = Check.ride("d");
            x.days(n);
            check.due("acts of " + n + " days", x.count(10), Math.min(40, n));
            check.due("one undone", x.undo(), Math.min(40, n) - 1);
            check.due("the day", x.count(5), n - 1);
        }
    }
}

/** Promise 42: ahead. */
public final class Promise42AheadTest {
    private static Check check;

    public static void main(String[] args) {
        check = new Check("Promise42AheadTest");
        noSuchMan();
        outOfBounds();
        noughtDays();
        within999();
        notWithin999();
        asNow();
        asDaysTell();
        check.end();
    }

    /** As many WORDS a DAY, all of them his. */
    private static GallopDispatch daily(int words) {
        GallopDispatch x = Check.ride("sl30p1w" + words + "m0;d;d");
        Check.hold(x, "y:9");
        return x;
    }

    private static void noSuchMan() {
        Refusal.due(check, "ahead(-1, 1)", Rich::made, x -> x.ahead(-1, 1), -1, Refusal.NO_STATUS);
        Refusal.due(check, "ahead(3, 1)", Rich::made, x -> x.ahead(3, 1), -1, Refusal.NO_STATUS);
        for (int wild : Refusal.wildNumbers()) {
            check.due("ahead(" + wild + ", 1)", Rich.made().ahead(wild, 1), -1);
            check.due("ahead(0, " + wild + ")", Rich.made().ahead(0, wild), -1);
        }
        check.due("without a ride", new GallopDispatch().ahead(0, 1), -1);
        Refusal.onlyAsks(check, "ahead(0, 100)", Rich::made, x -> x.ahead(0, 100));
        Refusal.onlyAsks(check, "ahead(0, 1)", Rich::made, x -> x.ahead(0, 1));
    }

    /** "n (1 .. 9,999)" */
    private static void outOfBounds() {
        Refusal.due(check, "ahead(0, 0)", Rich::made, x -> x.ahead(0, 0), -1, Refusal.NO_STATUS);
        Refusal.due(check, "ahead(0, -1)", Rich::made, x -> x.ahead(0, -1), -1, Refusal.NO_STATUS);
        Refusal.due(check, "ahead(0, 10000)", Rich::made, x -> x.ahead(0, 10000), -1, Refusal.NO_STATUS);
        GallopDispatch x = daily(20);
        check.due("n 0", x.ahead(0, 0), -1);
        check.due("n 1", x.ahead(0, 1), 1);
        check.due("n 9998", x.ahead(0, 9998), 500);
        check.due("n 9999", x.ahead(0, 9999), 500);
        check.due("n 10000", x.ahead(0, 10000), -1);
    }

    /** "how many DAYS (0 ..": what he has already he need not wait for. */
    private static void noughtDays() {
        GallopDispatch x = daily(7);
        x.days(3);
        check.due("20 of 21", x.ahead(0, 20), 0);
        check.due("21 of 21", x.ahead(0, 21), 0);
        check.due("22 of 21", x.ahead(0, 22), 1);
        check.due("28 of 21", x.ahead(0, 28), 1);
        check.due("29 of 21", x.ahead(0, 29), 2);
        Check.hold(x, "y:0");
        check.due("what he has, though he is mentioned no more", x.ahead(0, 21), 0);
        check.due("more than he has", x.ahead(0, 22), -1);
        check.due("who has nothing", x.ahead(1, 1), -1);
    }

    private static void within999() {
        check.due("one a day: 998", daily(1).ahead(0, 998), 998);
        check.due("one a day: 999", daily(1).ahead(0, 999), 999);
        check.due("ten a day: 9990", daily(10).ahead(0, 9990), 999);
        check.due("ten a day: 9981", daily(10).ahead(0, 9981), 999);
        check.due("ten a day: 9980", daily(10).ahead(0, 9980), 998);
        check.due("eleven a day: 9999", daily(11).ahead(0, 9999), 909);
    }

    /** "NONE: not within 999" */
    private static void notWithin999() {
        check.due("one a day: 1000", daily(1).ahead(0, 1000), -1);
        check.due("one a day: 9999", daily(1).ahead(0, 9999), -1);
        check.due("ten a day: 9991", daily(10).ahead(0, 9991), -1);
        check.due("ten a day: 9999", daily(10).ahead(0, 9999), -1);
        check.due("never", daily(10).ahead(1, 1), -1);
        GallopDispatch x = daily(1);
        x.days(1);
        check.due("one he has: 1000", x.ahead(0, 1000), 999);
        check.due("one he has: 1001", x.ahead(0, 1001), -1);
        Refusal.due(check, "not within 999", () -> daily(1), y -> y.ahead(0, 1000), -1, Refusal.NO_STATUS);
    }

    /** "all as now": no DAY goes by for it, and ACTS count by what they changed. */
    private static void asNow() {
        GallopDispatch x = Check.ride("sl10p1w20m0;dx2v3r0;dx9v0r0");
        check.due("heard at five steps", x.ahead(0, 50), 10);
        x.voice(0, 2);
        check.due("heard at three", x.ahead(0, 50), 17);
        check.due("the day", x.count(5), 0);
        check.due("glory", x.man(0, 4), 0);
    }

    private static void asDaysTell() {
        int[] needs = {1, 2, 17, 35, 36, 37, 59};
        for (int n : needs) {
            GallopDispatch x = Rich.made();
            int days = x.ahead(0, n);
            check.due("he gets so far", days >= 0, true);
            if (days > 0) {
                x.days(days);
                check.due("by then", x.man(0, 4) >= n, true);
                x.undo();
                check.due("not a day before", x.man(0, 4) < n, true);
            }
        }
    }
}

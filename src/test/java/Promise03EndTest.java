/** Promise 3: end. */
public final class Promise03EndTest {
    public static void main(String[] args) {
        Check check = new Check("Promise03EndTest");
        bounds(check);
        emptyTape(check);
        fullTape(check);
        firstBytesAlone(check);
        refused(check);
        check.end();
    }

    private static boolean endOf(String text, int n) {
        GallopDispatch x = new GallopDispatch();
        Check.feed(x, text);
        return x.end(n);
    }

    /** "False: n": below 0, and more than there are. */
    private static void bounds(Check check) {
        check.due("-1 of 5", endOf("dx7;d", -1), false);
        check.due("0 of 5", endOf("dx7;d", 0), true);
        check.due("1 of 5", endOf("dx7;d", 1), true);
        check.due("4 of 5", endOf("dx7;d", 4), true);
        check.due("5 of 5", endOf("dx7;d", 5), true);
        check.due("6 of 5", endOf("dx7;d", 6), false);
        for (int n : Refusal.wildNumbers()) {
            check.due(n + " of 5", endOf("dx7;d", n), false);
        }
    }

    private static void emptyTape(Check check) {
        check.due("-1 of 0", endOf("", -1), false);
        check.due("0 of 0", endOf("", 0), true);
        check.due("1 of 0", endOf("", 1), false);
    }

    private static void fullTape(Check check) {
        check.due("239 of 240", endOf(" ".repeat(240), 239), true);
        check.due("240 of 240", endOf(" ".repeat(240), 240), true);
        check.due("241 of 240", endOf(" ".repeat(240), 241), false);
        check.due("240 of 239", endOf(" ".repeat(239), 240), false);
    }

    /** "The TAPE has its first n bytes alone." */
    private static void firstBytesAlone(Check check) {
        int[] faults = {0, -1, 2, -1, 4, -1};
        for (int n = 0; n <= 5; n++) {
            GallopDispatch x = new GallopDispatch();
            Check.feed(x, "dx7;d");
            x.end(n);
            check.due("bytes", x.count(3), n);
            check.due("fault of the first " + n, x.fault(0), faults[n]);
            check.due("what was cut off is gone", x.end(n + 1), false);
            check.due("what comes then comes behind them", x.feed('q', 0, 0, 0, 0), n + 1);
        }
        GallopDispatch y = new GallopDispatch();
        Check.feed(y, "dx12");
        y.end(3);
        Check.feed(y, "3");
        check.due("dx13", y.text(0), 1);
        check.due("at 13", y.man(0, 0), 13);
    }

    private static void refused(Check check) {
        Refusal.due(check, "end(-1)", Rich::made, x -> x.end(-1) ? 1 : 0, 0, Refusal.NO_STATUS);
        Refusal.due(check, "end of one more", Rich::made, x -> x.end(x.count(3) + 1) ? 1 : 0, 0, Refusal.NO_STATUS);
        Refusal.due(check, "end(MAX)", Rich::made, x -> x.end(Integer.MAX_VALUE) ? 1 : 0, 0, Refusal.NO_STATUS);
        // All of them is not refused, but changes nothing either.
        Refusal.onlyAsks(check, "end of all", Rich::made, x -> x.end(x.count(3)) ? 1 : 0);
    }
}

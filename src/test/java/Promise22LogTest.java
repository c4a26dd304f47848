/** Promise 22: log. */
public final class Promise22LogTest {
    private static Check check;

    public static void main(String[] args) {
        check = new Check("Promise22LogTest");
        noSuchOnes();
        empty();
        latestFirst();
        sixtyAtMost();
        undoneToo();
        kinds();
        check.end();
    }

    /** "NONE: no such ones" */
    private static void noSuchOnes() {
        int[][] none = {{-1, 0}, {7, 0}, {7, 2}, {0, -1}, {0, 3}, {6, 3}, {7, 3}};
        for (int[] one : none) {
            Refusal.due(check, "log(" + one[0] + ", " + one[1] + ")", Rich::made,
                x -> x.log(one[0], one[1]), -1, Refusal.NO_STATUS);
        }
        GallopDispatch x = Rich.made();
        for (int wild : Refusal.wildNumbers()) {
            check.due("log(" + wild + ", 0)", x.log(wild, 0), -1);
            check.due("log(0, " + wild + ")", x.log(0, wild), -1);
        }
        check.due("the first line of seven is there", x.log(6, 0) >= 0, true);
        Refusal.onlyAsks(check, "log(0, 0)", Rich::made, y -> y.log(0, 0));
        Refusal.onlyAsks(check, "log(6, 2)", Rich::made, y -> y.log(6, 2));
    }

    private static void empty() {
        GallopDispatch x = Check.ride("d");
        check.due("no day so far", x.log(0, 0), -1);
        check.due("how long", x.count(9), 0);
        check.due("without a ride", new GallopDispatch().log(0, 0), -1);
        x.deed(0);
        check.due("other acts have no line", x.log(0, 0), -1);
        x.days(1);
        check.due("one day", x.log(0, 0) >= 0, true);
        check.due("none ahead of it", x.log(1, 0), -1);
    }

    /** A RIDE of as many WORDS as the MUD of its DAY tells: line by line another number. */
    private static GallopDispatch counting() {
        GallopDispatch x = Check.ride("sl9p1w20m0;d");
        Check.hold(x, "y:n<m?9");
        return x;
    }

    private static void oneDay(GallopDispatch x, int words) {
        x.rain(words);
        x.days(1);
    }

    /** "the latest (i 0), the one ahead of it (1) .." */
    private static void latestFirst() {
        GallopDispatch x = counting();
        for (int k = 1; k <= 9; k++) {
            oneDay(x, k);
            for (int i = 0; i < k; i++) {
                check.due("log(" + i + ", 0) on day " + k, x.log(i, 0), k - i);
            }
            check.due("none behind", x.log(k, 0), -1);
            check.due("how long", x.count(9), k);
        }
    }

    /** "the latest 60" */
    private static void sixtyAtMost() {
        int[] numbers = {59, 60, 61, 99, 100, 101, 120, 121};
        for (int n : numbers) {
            GallopDispatch x = counting();
            for (int k = 1; k <= n; k++) {
                oneDay(x, k % 10);
            }
            int lines = Math.min(60, n);
            check.due("how long after " + n, x.count(9), lines);
            for (int i = 0; i < lines; i++) {
                check.due("log(" + i + ", 0) after " + n, x.log(i, 0), (n - i) % 10);
            }
            check.due("none behind", x.log(lines, 0), -1);
        }
    }

    /** "(LOG, too)": lines beyond the sixty come back by UNDOING as many as can be. */
    private static void undoneToo() {
        int[] numbers = {20, 59, 60, 61, 85, 100};
        for (int n : numbers) {
            GallopDispatch x = counting();
            for (int k = 1; k <= n; k++) {
                oneDay(x, k % 10);
            }
            // Each DAY has its rain ahead of it: forty ACTS are twenty DAYS.
            for (int k = 1; k <= 20; k++) {
                x.undo();
                check.due("a day less", x.count(5), n - k);
                check.due("how long", x.count(9), Math.min(60, n - k));
                check.due("the latest", x.log(0, 0), n == k ? -1 : (n - k) % 10);
                x.undo();
            }
            int lines = Math.min(60, n - 20);
            for (int i = 0; i < lines; i++) {
                check.due("log(" + i + ", 0) after " + n, x.log(i, 0), (n - 20 - i) % 10);
            }
            check.due("none behind", x.log(lines, 0), -1);
        }
        GallopDispatch y = counting();
        oneDay(y, 7);
        y.rain(2);
        y.days(60);
        y.days(39);
        for (int k = 0; k < 40; k++) {
            y.undo();
        }
        check.due("the first of all days", y.log(59, 0), 7);
        check.due("the one behind it", y.log(58, 0), 2);
        y.days(1);
        check.due("it is the sixty-first again", y.log(59, 0), 2);
    }

    /** "0 WORDS, 1 SLIPS, 2 who was MENTIONED" */
    private static void kinds() {
        GallopDispatch x = Check.ride("sl10p2w8m1;dx0v9;dx4v2;dx8v0;dx5v9");
        Check.hold(x, "y:d=0?v");
        x.days(1);
        check.due("words", x.log(0, 0), 2);
        check.due("slips", x.log(0, 1), 1);
        check.due("who", x.log(0, 2), 0b0101);
        x.rain(0);
        x.days(1);
        check.due("words", x.log(0, 0), 2);
        check.due("no slips", x.log(0, 1), 0);
        check.due("who", x.log(0, 2), 0b0011);
        check.due("slips before", x.log(1, 1), 1);
        GallopDispatch six = Check.ride("sl5p1w20m0;dx0;dx1;dx2;dx3;dx4;dx5");
        Check.hold(six, "y:d=0?9");
        six.days(1);
        check.due("all six", six.log(0, 2), 63);
    }
}

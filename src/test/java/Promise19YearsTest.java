import java.math.BigInteger;

/** Promise 19: years. */
public final class Promise19YearsTest {
    private static final BigInteger ROUND = BigInteger.ONE.shiftLeft(64);
    private static final BigInteger TIMES = new BigInteger("6364136223846793005");
    private static final BigInteger MORE = new BigInteger("1442695040888963407");
    private static Check check;
    private static BigInteger x;

    public static void main(String[] args) {
        check = new Check("Promise19YearsTest");
        oneToSixty();
        lastDay();
        refused();
        byDraws();
        belowStorm();
        forNothing();
        oneActADay();
        theRideGoesFromThere();
        check.end();
    }

    /** "n (1 .. 60) DAYS" */
    private static void oneToSixty() {
        int[] numbers = {-1, 0, 1, 2, 59, 60, 61};
        for (int n : numbers) {
            GallopDispatch d = Check.ride("d");
            boolean go = n >= 1 && n <= 60;
            check.due("years(" + n + ")", d.years(n, 3L), go ? n : -1);
            check.due("the day", d.count(5), go ? n : 0);
            check.due("acts", d.count(10), go ? Math.min(40, n) : 0);
            check.due("lines", d.count(9), go ? n : 0);
        }
        GallopDispatch none = new GallopDispatch();
        check.due("without a ride", none.years(1, 3L), -1);
        check.due("without a ride", none.years(0, 3L), -1);
        check.due("no status", none.status(0), 0);
    }

    private static void lastDay() {
        check.due("938 and 60", Rich.onDay(938).years(60, 1L), 998);
        check.due("939 and 60", Rich.onDay(939).years(60, 1L), 999);
        check.due("940 and 60", Rich.onDay(940).years(60, 1L), -1);
        check.due("998 and 1", Rich.onDay(998).years(1, 1L), 999);
        check.due("998 and 2", Rich.onDay(998).years(2, 1L), -1);
        check.due("999 and 1", Rich.onDay(999).years(1, 1L), -1);
    }

    /** "NONE: no RIDE, out of bounds, beyond 999"; "No STATUS." */
    private static void refused() {
        Refusal.due(check, "years(0)", Rich::made, d -> d.years(0, 1L), -1, Refusal.NO_STATUS);
        Refusal.due(check, "years(-1)", Rich::made, d -> d.years(-1, 1L), -1, Refusal.NO_STATUS);
        Refusal.due(check, "years(61)", Rich::made, d -> d.years(61, 1L), -1, Refusal.NO_STATUS);
        Refusal.due(check, "940 and 60", () -> Rich.onDay(940), d -> d.years(60, 1L), -1, Refusal.NO_STATUS);
        Refusal.due(check, "999 and 1", () -> Rich.onDay(999), d -> d.years(1, 1L), -1, Refusal.NO_STATUS);
        for (int wild : Refusal.wildNumbers()) {
            GallopDispatch d = Rich.made();
            check.due("years(" + wild + ")", d.years(wild, 1L), -1);
            check.due("the day", d.count(5), 7);
        }
        GallopDispatch d = Rich.made();
        d.years(60, 1L);
        int[] status = {1, 1, 1, 1, 0};
        for (int what = 0; what < 5; what++) {
            check.due("no status of what was done", d.status(what), status[what]);
        }
    }

    /** "x, at first the seed, becomes x times .. and .. (64 bits, going round); (x shifted right by 33) modulo j" */
    private static int draw(int of) {
        x = x.multiply(TIMES).add(MORE).mod(ROUND);
        return x.shiftRight(33).mod(BigInteger.valueOf(of)).intValue();
    }

    private static void byDraws() {
        long[] seeds = {0L, 1L, -1L, 7L, Long.MIN_VALUE, Long.MAX_VALUE, 1L << 33, -987654321987654321L};
        int[][] roads = {{1, 5}, {2, 20}, {3, 17}, {5, 29}, {6, 30}};
        for (long seed : seeds) {
            for (int[] road : roads) {
                for (int storm = 0; storm <= 9; storm += 3) {
                    byDraws(seed, road[0], road[1], storm, 23);
                }
            }
        }
        byDraws(5L, 4, 11, 4, 60);
    }

    private static void byDraws(long seed, int men, int length, int storm, int days) {
        GallopDispatch d = Check.ride("sl" + length + "m3" + ";d".repeat(men));
        if (storm > 0) {
            d.storm(storm);
        }
        int[] stands = {5, 5, 5, 5, 5, 5};
        int mud = 3;
        x = BigInteger.valueOf(seed).mod(ROUND);
        for (int k = 0; k < days; k++) {
            int man = draw(men);
            stands[man] = draw(length + 1);
            if (draw(10) < storm) {
                mud = draw(10);
            }
        }
        check.due("years", d.years(days, seed), days);
        for (int k = 0; k < men; k++) {
            check.due("man " + k + " by seed " + seed, d.man(k, 0), stands[k]);
        }
        check.due("mud by seed " + seed + " and storm " + storm, d.rule(3), mud);
    }

    /** "a draw of 10 below STORM": as much as STORM is not below it. */
    private static void belowStorm() {
        for (long seed = 0; seed < 60; seed++) {
            x = BigInteger.valueOf(seed);
            draw(1);
            draw(21);
            int drawn = draw(10);
            int mud = draw(10);
            for (int storm = Math.max(0, drawn - 1); storm <= Math.min(9, drawn + 1); storm++) {
                GallopDispatch d = Check.ride("sm" + (mud == 0 ? 9 : mud - 1) + ";d");
                d.storm(storm);
                d.years(1, seed);
                int due = drawn < storm ? mud : mud == 0 ? 9 : mud - 1;
                check.due("drawn " + drawn + ", storm " + storm, d.rule(3), due);
            }
        }
    }

    /** "he STANDS there (for nothing)" */
    private static void forNothing() {
        GallopDispatch d = Check.ride("sl30c0;d");
        Check.hold(d, "y:0");
        d.storm(9);
        d.years(20, 11L);
        check.due("coins", d.rule(4), 0);
    }

    /** "Each DAY with what is ahead of it is one ACT." */
    private static void oneActADay() {
        GallopDispatch d = Check.ride("sl30m3;dx30;dx30;dx30");
        d.storm(9);
        int[][] was = new int[11][5];
        for (int k = 0; k <= 10; k++) {
            was[k] = new int[] {d.man(0, 0), d.man(1, 0), d.man(2, 0), d.rule(3), d.rule(4)};
            d.years(1, 1000L + k);
        }
        check.due("acts", d.count(10), 11);
        for (int k = 10; k >= 0; k--) {
            check.due("undone", d.undo(), k);
            int[] is = {d.man(0, 0), d.man(1, 0), d.man(2, 0), d.rule(3), d.rule(4)};
            for (int j = 0; j < 5; j++) {
                check.due("as it was ahead of day " + k, is[j], was[k][j]);
            }
            check.due("day", d.count(5), k);
        }
        check.due("nothing more", d.undo(), -1);
        // By one call or by undoing one of it: the last of several is one act, too.
        GallopDispatch e = Check.ride("sl30m3;dx30;dx30;dx30");
        GallopDispatch f = Check.ride("sl30m3;dx30;dx30;dx30");
        e.years(7, 42L);
        f.years(6, 42L);
        check.due("undone", e.undo(), 6);
        for (int man = 0; man < 3; man++) {
            check.due("stands as on day 6", e.man(man, 0), f.man(man, 0));
            check.due("glory as on day 6", e.man(man, 4), f.man(man, 4));
        }
    }

    /** What is drawn is drawn ahead of the DAY: its RIDE is of then. */
    private static void theRideGoesFromThere() {
        for (long seed = 0; seed < 30; seed++) {
            GallopDispatch d = Check.ride("sl30p1w20m0;dx0v9r0;dx30v1r0");
            d.storm(9);
            d.years(1, seed);
            check.due("words", d.log(0, 0), d.words(-1));
            check.due("slips", d.log(0, 1), d.ride(0));
            check.due("glory of 0", d.man(0, 4), d.mentions(0));
            check.due("glory of 1", d.man(1, 4), d.mentions(1));
        }
    }
}

/** Promises 18 and 19: STORM and YEARS. */
public final class YearsTest {
    private static long x;

    public static void main(String[] args) {
        Check check = new Check("YearsTest");
        storm(check);
        byDraws(check, 0, 7L);
        byDraws(check, 4, -3L);
        byDraws(check, 9, 123456789123456789L);
        firstDraws(check);
        bounds(check);
        undone(check);
        check.end();
    }

    private static void storm(Check check) {
        GallopDispatch d = new GallopDispatch();
        check.due("it is so", d.storm(0), false);
        check.due("nine", d.storm(9), true);
        check.due("count(7)", d.count(7), 9);
        check.due("it is so", d.storm(9), false);
        check.due("ten", d.storm(10), false);
        check.due("below", d.storm(-1), false);
        check.due("count(7)", d.count(7), 9);
        check.due("nought again", d.storm(0), true);
        check.due("no status", d.status(0) + d.status(1) + d.status(2), 0);
        check.due("no act", d.count(10), 0);
    }

    private static int draw(int of) {
        x = x * 6364136223846793005L + 1442695040888963407L;
        return (int) ((x >>> 33) % of);
    }

    private static void byDraws(Check check, int storm, long seed) {
        GallopDispatch d = Check.ride("sl17m3c40;dx1;dx2;dx3");
        if (storm > 0) {
            d.storm(storm);
        }
        int[] stands = {1, 2, 3};
        int mud = 3;
        x = seed;
        for (int k = 0; k < 25; k++) {
            int man = draw(3);
            stands[man] = draw(18);
            if (draw(10) < storm) {
                mud = draw(10);
            }
        }
        check.due("25 days", d.years(25, seed), 25);
        for (int k = 0; k < 3; k++) {
            check.due("stands of " + k + " by seed " + seed, d.man(k, 0), stands[k]);
        }
        check.due("mud by seed " + seed, d.rule(3), mud);
        check.due("acts", d.count(10), 25);
        check.due("log", d.count(9), 25);
    }

    /** By the seed 0 the first draws are 1442695040888963407 shifted by 33, and so on: worked out apart. */
    private static void firstDraws(Check check) {
        java.math.BigInteger a = new java.math.BigInteger("6364136223846793005");
        java.math.BigInteger c = new java.math.BigInteger("1442695040888963407");
        java.math.BigInteger first = c;
        java.math.BigInteger second = first.multiply(a).add(c).mod(java.math.BigInteger.ONE.shiftLeft(64));
        int man = first.shiftRight(33).mod(java.math.BigInteger.valueOf(6)).intValue();
        int at = second.shiftRight(33).mod(java.math.BigInteger.valueOf(31)).intValue();
        GallopDispatch d = Check.ride("sl30;d;d;d;d;d;d");
        d.years(1, 0L);
        for (int k = 0; k < 6; k++) {
            check.due("stands of " + k, d.man(k, 0), k == man ? at : 5);
        }
    }

    private static void bounds(Check check) {
        GallopDispatch d = Check.ride("sc0;d");
        check.due("none", d.years(0, 1L), -1);
        check.due("below", d.years(-1, 1L), -1);
        check.due("too many", d.years(61, 1L), -1);
        check.due("sixty", d.years(60, 1L), 60);
        check.due("acts", d.count(10), 40);
        for (int what = 0; what < 5; what++) {
            check.due("no status", d.status(what), 0);
        }
    }

    /** A day with what is ahead of it is one act, and its ride goes from where he stands then. */
    private static void undone(Check check) {
        GallopDispatch d = Check.ride("sl30m4c3;dx30");
        d.storm(9);
        d.years(1, 99L);
        int stands = d.man(0, 0);
        int mud = d.rule(3);
        int words = d.words(-1);
        check.due("the ride was of then", d.log(0, 0), words);
        d.years(1, 5L);
        check.due("undone", d.undo(), 1);
        check.due("stands", d.man(0, 0), stands);
        check.due("mud", d.rule(3), mud);
        check.due("undone", d.undo(), 0);
        check.due("stands", d.man(0, 0), 30);
        check.due("mud", d.rule(3), 4);
        check.due("coins", d.rule(4), 3);
        check.due("day", d.count(5), 0);
        check.due("storm is not undone", d.count(7), 9);
    }
}

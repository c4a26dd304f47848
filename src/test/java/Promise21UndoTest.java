import java.util.ArrayList;
import java.util.List;

/** Promise 21: undo. */
public final class Promise21UndoTest {
    private static Check check;

    public static void main(String[] args) {
        check = new Check("Promise21UndoTest");
        noneToUndo();
        fortyAtMost();
        goingRound();
        eachActWhole();
        whatIsNoAct();
        undoneAndDoneAgain();
        check.end();
    }

    /** "NONE: none" */
    private static void noneToUndo() {
        check.due("a new object", new GallopDispatch().undo(), -1);
        Refusal.due(check, "undo of a new ride", () -> Check.ride(Rich.RIDE), x -> x.undo(), -1, Refusal.NO_STATUS);
        Refusal.due(check, "undo behind the last one", () -> {
            GallopDispatch x = Rich.made();
            for (int k = 0; k < 15; k++) {
                x.undo();
            }
            return x;
        }, x -> x.undo(), -1, Refusal.NO_STATUS);
        Refusal.due(check, "undo behind back", () -> {
            GallopDispatch x = Rich.made();
            x.back();
            return x;
        }, x -> x.undo(), -1, Refusal.NO_STATUS);
        GallopDispatch one = Check.ride("d");
        one.deed(0);
        check.due("the only one", one.undo(), 0);
        check.due("no more", one.undo(), -1);
        check.due("no more", one.undo(), -1);
    }

    /** "the latest 40 can be UNDONE": 39, 40, 41 and many. */
    private static void fortyAtMost() {
        int[] numbers = {1, 39, 40, 41, 42, 79, 80, 81, 100};
        for (int n : numbers) {
            GallopDispatch x = Check.ride("sm0;d");
            for (int k = 1; k <= n; k++) {
                x.rain(k % 10);
            }
            int can = Math.min(40, n);
            check.due("acts that can be undone", x.count(10), can);
            for (int k = 1; k <= can; k++) {
                check.due("undo " + k + " of " + n, x.undo(), can - k);
                check.due("mud", x.rule(3), (n - k) % 10);
            }
            check.due("no more", x.undo(), -1);
            check.due("the oldest stay done", x.rule(3), (n - can) % 10);
            check.due("count", x.count(10), 0);
        }
    }

    /** Doing and undoing by turns never mixes them up, wherever the row of forty begins. */
    private static void goingRound() {
        GallopDispatch x = Check.ride("sm0;d");
        List<Integer> was = new ArrayList<>();
        int mud = 0;
        for (int k = 0; k < 120; k++) {
            if (k % 7 == 5 || k % 11 == 3) {
                int last = was.size() - 1;
                mud = last < 0 ? mud : was.remove(last);
                check.due("undone at " + k, x.undo(), was.size());
            } else {
                was.add(mud);
                mud = (mud + 1 + k % 3) % 10;
                x.rain(mud);
                if (was.size() > 40) {
                    was.remove(0);
                }
            }
            check.due("mud at " + k, x.rule(3), mud);
            check.due("acts at " + k, x.count(10), was.size());
        }
    }

    private static long[] all(GallopDispatch x) {
        long[] out = new long[12];
        for (int what = 0; what < 5; what++) {
            out[what] = x.rule(what);
            out[5 + what] = Check.man(x, 0, what);
        }
        out[10] = x.ford(0, 1);
        out[11] = 1000L * x.count(9) + x.count(5);
        return out;
    }

    /** Of each sort of ACT all that it changed is as it was, be it the first of its sort or a later one. */
    private static void eachActWhole() {
        GallopDispatch x = Check.ride("sl10p2m1c99;dx2v5e2;dx9;fx4d9");
        List<long[]> were = new ArrayList<>();
        for (int k = 0; k < 27; k++) {
            were.add(all(x));
            switch (k % 9) {
                case 0: x.move(0, x.man(0, 0) == 5 ? 7 : 5); break;
                case 1: x.voice(0, 9 - k / 9); break;
                case 2: x.deed(0); break;
                case 3: x.feedHorse(true); break;
                case 4: x.feedHorse(false); break;
                case 5: x.fill(0); break;
                case 6: x.rain(7 + k / 9); break;
                case 7: x.days(1); break;
                default: x.years(1, 4L + k); break;
            }
        }
        for (int k = were.size() - 1; k >= 0; k--) {
            check.due("undone", x.undo(), k);
            long[] is = all(x);
            for (int j = 0; j < is.length; j++) {
                check.due("act " + k + " undone: " + j, is[j], were.get(k)[j]);
            }
        }
    }

    /** What was refused, and what is no ACT, is not among them. */
    private static void whatIsNoAct() {
        GallopDispatch x = Check.ride("d");
        x.deed(0);
        x.deed(9);
        x.rain(2);
        x.days(0);
        x.years(0, 1L);
        x.storm(5);
        Check.hold(x, "y:7");
        x.seen(0, 0, true);
        x.image();
        x.words(-1);
        check.due("one act", x.count(10), 1);
        check.due("undone", x.undo(), 0);
        check.due("it was the deed", x.man(0, 2), 3);
        check.due("storm", x.count(7), 5);
        check.due("law", x.count(4), 0);
        check.due("seen", x.count(8), 1);
        check.due("the image is of then", x.back(), 0);
        check.due("with the deed", x.man(0, 2), 4);
    }

    /** An ACT that was UNDONE is gone: what is done then takes its place. */
    private static void undoneAndDoneAgain() {
        GallopDispatch x = Check.ride("sm0;d");
        x.rain(1);
        x.rain(2);
        x.undo();
        x.rain(5);
        check.due("acts", x.count(10), 2);
        check.due("undone", x.undo(), 1);
        check.due("mud", x.rule(3), 1);
        check.due("undone", x.undo(), 0);
        check.due("mud", x.rule(3), 0);
    }
}

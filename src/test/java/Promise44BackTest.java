/** Promise 44: back. */
public final class Promise44BackTest {
    private static Check check;

    public static void main(String[] args) {
        check = new Check("Promise44BackTest");
        noImage();
        noImageOfThisRide();
        soAgain();
        whatStays();
        noActCanBeUndoneThen();
        theLogOfThen();
        allOfItsLines();
        everAgain();
        check.end();
    }

    /** "NONE: no IMAGE of this RIDE" */
    private static void noImage() {
        check.due("a new object", new GallopDispatch().back(), -1);
        Refusal.due(check, "back without an image", () -> {
            GallopDispatch x = Check.ride(Rich.RIDE);
            x.days(3);
            x.rain(9);
            x.seen(0, 0, true);
            return x;
        }, x -> x.back(), -1, Refusal.NO_STATUS);
    }

    private static void noImageOfThisRide() {
        Refusal.due(check, "back to another ride", () -> {
            GallopDispatch x = Rich.made();
            Check.tell(x, Rich.RIDE, 0);
            x.days(3);
            x.rain(9);
            return x;
        }, x -> x.back(), -1, Refusal.NO_STATUS);
        GallopDispatch y = Rich.made();
        // A TEXT that was refused leaves the RIDE, and so its IMAGE.
        y.text(0);
        check.due("a refused text leaves it", y.back(), 5);
        y.text(1);
        check.due("a law leaves it", y.back(), 5);
        Check.tell(y, "d", 0);
        check.due("a ride does not", y.back(), -1);
        y.image();
        check.due("one of its own", y.back(), 0);
    }

    private static long[] kept(GallopDispatch x) {
        long[] out = new long[3 * 5 + 3 + 5 + 2];
        int k = 0;
        for (int man = 0; man < 3; man++) {
            for (int what = 0; what < 5; what++) {
                out[k++] = Check.man(x, man, what);
            }
        }
        for (int ford = 0; ford < 3; ford++) {
            out[k++] = x.ford(ford, 1);
        }
        for (int what = 0; what < 5; what++) {
            out[k++] = x.rule(what);
        }
        out[k++] = x.count(5);
        out[k++] = x.count(9);
        return out;
    }

    /** "where MEN STAND, VOICES, DEEDS, GLORY, DEPTHS, PACE, MUD, COINS, the DAY, the LOG": one by one */
    private static void soAgain() {
        for (int act = 0; act < 9; act++) {
            GallopDispatch x = Rich.made();
            x.days(2);
            x.image();
            long[] due = kept(x);
            switch (act) {
                case 0: x.move(2, 8); break;
                case 1: x.voice(1, 9); break;
                case 2: x.deed(2); break;
                case 3: x.feedHorse(false); break;
                case 4: x.fill(0); break;
                case 5: x.rain(9); break;
                case 6: x.days(5); break;
                case 7: x.years(5, 3L); break;
                default: x.undo(); break;
            }
            boolean changed = !java.util.Arrays.equals(due, kept(x));
            check.due("act " + act + " changed something", changed, true);
            check.due("back from act " + act, x.back(), 9);
            long[] got = kept(x);
            for (int k = 0; k < due.length; k++) {
                check.due("act " + act + ", " + k, got[k], due[k]);
            }
        }
    }

    private static void whatStays() {
        GallopDispatch x = Rich.made();
        x.law(0);
        x.storm(9);
        x.seen(1, 1, true);
        x.deed(9);
        x.back();
        check.due("laws", x.count(2), 2);
        check.due("bytes", x.count(3), 9);
        check.due("which holds", x.count(4), 0);
        check.due("storm", x.count(7), 9);
        check.due("seen", x.count(8), 3);
        check.due("status", x.status(0), 2);
    }

    /** "(no ACT can be UNDONE then)" */
    private static void noActCanBeUndoneThen() {
        GallopDispatch x = Rich.made();
        check.due("fifteen can be undone", x.count(10), 15);
        x.back();
        check.due("none can be", x.count(10), 0);
        check.due("undo", x.undo(), -1);
        x.rain(9);
        check.due("the next one can", x.undo(), 0);
        check.due("mud as of the image", x.rule(3), 3);
        check.due("no further", x.undo(), -1);
        // At once, with nothing done between, too.
        GallopDispatch y = Check.ride("d");
        y.deed(0);
        y.image();
        y.back();
        check.due("none can be", y.undo(), -1);
        check.due("the deed stays done", y.man(0, 2), 4);
    }

    /** Lines as they were, though sixty later ones came, and though some were UNDONE. */
    private static void theLogOfThen() {
        int[] lengths = {0, 1, 59, 60, 61, 100};
        for (int length : lengths) {
            GallopDispatch x = Check.ride("sl9p1w20m0;d");
            Check.hold(x, "y:n<m?9");
            for (int k = 1; k <= length; k++) {
                x.rain(k % 10);
                x.days(1);
            }
            x.image();
            x.rain(length % 10 == 5 ? 6 : 5);
            x.days(60);
            x.days(60);
            check.due("back", x.back(), length);
            int lines = Math.min(60, length);
            check.due("lines", x.count(9), lines);
            for (int i = 0; i < lines; i++) {
                check.due("log(" + i + ", 0) of " + length, x.log(i, 0), (length - i) % 10);
            }
            check.due("none behind", x.log(lines, 0), -1);
        }
        GallopDispatch y = Check.ride("sl9p1w20m0;d");
        Check.hold(y, "y:n<m?9");
        y.rain(7);
        y.days(3);
        y.image();
        y.undo();
        y.undo();
        y.rain(2);
        y.days(9);
        y.back();
        for (int i = 0; i < 3; i++) {
            check.due("a line of then", y.log(i, 0), 7);
        }
    }

    /** WORDS, SLIPS, and who was MENTIONED. */
    private static void allOfItsLines() {
        GallopDispatch x = Check.ride("sl10p5w3m1;dr1;dr2");
        Check.hold(x, "y:r=1?1");
        x.days(60);
        x.image();
        Check.hold(x, "y:r=1&n<1?9");
        x.days(60);
        for (int turn = 0; turn < 2; turn++) {
            for (int i = 0; i < 60; i++) {
                check.due("words of " + i, x.log(i, 0), turn == 0 ? 1 : 3);
                check.due("slips of " + i, x.log(i, 1), turn == 0 ? 0 : 3);
                check.due("who of " + i, x.log(i, 2), turn == 0 ? 1 : 2);
            }
            x.back();
        }
    }

    private static void everAgain() {
        GallopDispatch x = Rich.made();
        for (int k = 0; k < 5; k++) {
            x.days(1);
            check.due("back, time " + k, x.back(), 5);
        }
    }
}

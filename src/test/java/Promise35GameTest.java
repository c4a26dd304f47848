/** Promise 35: game. */
public final class Promise35GameTest {
    private static final int HIDDEN = -1000000;
    private static Check check;

    public static void main(String[] args) {
        check = new Check("Promise35GameTest");
        noSuchOnes();
        outOfBounds();
        noughtToFour();
        voiceNineAtMost();
        fromTheVoiceNow();
        lessThanNought();
        theOneAndTheOther();
        check.end();
    }

    /** "HIDDEN: no such ones, alike" */
    private static void noSuchOnes() {
        int[][] none = {{-1, 0, 0}, {3, 0, 0}, {0, -1, 0}, {0, 3, 0}, {0, 0, 0}, {2, 2, 1}, {0, 1, -1}, {0, 1, 2}};
        for (int[] one : none) {
            Refusal.due(check, "game(" + one[0] + ", " + one[1] + ", 1, 1, " + one[2] + ")", Rich::made,
                x -> x.game(one[0], one[1], 1, 1, one[2]), HIDDEN, Refusal.NO_STATUS);
        }
        for (int wild : Refusal.wildNumbers()) {
            GallopDispatch x = Rich.made();
            check.due("one " + wild, x.game(wild, 1, 0, 0, 0), HIDDEN);
            check.due("other " + wild, x.game(0, wild, 0, 0, 0), HIDDEN);
            check.due("both " + wild, x.game(wild, wild, 0, 0, 0), HIDDEN);
            check.due("what " + wild, x.game(0, 1, 0, 0, wild), HIDDEN);
            check.due("x " + wild, x.game(0, 1, wild, 0, 0), HIDDEN);
            check.due("y " + wild, x.game(0, 1, 0, wild, 0), HIDDEN);
        }
        check.due("without a ride", new GallopDispatch().game(0, 1, 0, 0, 0), HIDDEN);
        check.due("one man alone", Check.ride("d").game(0, 1, 0, 0, 0), HIDDEN);
        Refusal.onlyAsks(check, "game(0, 1, 4, 4, 0)", Rich::made, x -> x.game(0, 1, 4, 4, 0));
        Refusal.onlyAsks(check, "game(2, 0, 1, 3, 1)", Rich::made, x -> x.game(2, 0, 1, 3, 1));
    }

    /** "x, y (0 .. 4)" */
    private static void outOfBounds() {
        int[][] beyond = {{-1, 0}, {5, 0}, {0, -1}, {0, 5}, {5, 5}, {-1, -1}};
        for (int[] xy : beyond) {
            Refusal.due(check, "game(0, 1, " + xy[0] + ", " + xy[1] + ", 0)", Rich::made,
                x -> x.game(0, 1, xy[0], xy[1], 0), HIDDEN, Refusal.NO_STATUS);
        }
    }

    /** "what one has: 3 times his MENTIONS then, less x (y)": 0 is heard where n is below his VOICE, 1 elsewhere. */
    private static void noughtToFour() {
        GallopDispatch d = Check.ride("sl10p1w20m0;dv3r1;dv2r2");
        Check.hold(d, "y:r=1&n<v?9;y:r=2&n>10-v?8");
        for (int x = 0; x <= 4; x++) {
            for (int y = 0; y <= 4; y++) {
                // 0 has the first 3 + x steps, 1 the last 2 + y of those 11 that are left to him.
                int one = 3 + x;
                int other = Math.min(2 + y, 11 - one);
                check.due("one by " + x + ", " + y, d.game(0, 1, x, y, 0), 3 * one - x);
                check.due("other by " + x + ", " + y, d.game(0, 1, x, y, 1), 3 * other - y);
            }
        }
    }

    /** "VOICE 9 at most" */
    private static void voiceNineAtMost() {
        for (int voice = 5; voice <= 9; voice++) {
            GallopDispatch d = Check.ride("sl30p1w20m0;dv" + voice + "r1;dv0r2");
            Check.hold(d, "y:r=1&n<v?9");
            for (int x = 0; x <= 4; x++) {
                int heard = Math.min(9, voice + x);
                check.due("voice " + voice + " and " + x, d.game(0, 1, x, 0, 0), 3 * heard - x);
                check.due("as the other", d.game(1, 0, 0, x, 1), 3 * heard - x);
            }
        }
    }

    /** "how much louder": than he is now. */
    private static void fromTheVoiceNow() {
        GallopDispatch d = Check.ride("sl30p1w20m0;dv2r1;dv2r2");
        Check.hold(d, "y:r=1&n<v?9;y:r=2&n>30-v?9");
        check.due("as told", d.game(0, 1, 1, 0, 0), 8);
        d.voice(0, 6);
        d.voice(1, 8);
        check.due("as it is now", d.game(0, 1, 1, 0, 0), 20);
        check.due("of the other", d.game(0, 1, 0, 4, 1), 23);
    }

    private static void lessThanNought() {
        GallopDispatch d = Check.ride("sm0;d;d");
        Check.hold(d, "y:0");
        check.due("nothing for nothing", d.game(0, 1, 0, 0, 0), 0);
        check.due("shouted in vain", d.game(0, 1, 4, 0, 0), -4);
        check.due("shouted in vain", d.game(0, 1, 0, 4, 1), -4);
        check.due("the other's costs him nothing", d.game(0, 1, 0, 4, 0), 0);
    }

    /** "what the one has (0), the other (1)": of two among more. */
    private static void theOneAndTheOther() {
        GallopDispatch d = Check.ride("sl5p5w20m0;dv9;dv5;dv6");
        Check.hold(d, "y:v");
        check.due("9 against 9, the lower", d.game(0, 1, 0, 4, 0), 6);
        check.due("the higher has nothing", d.game(0, 1, 0, 4, 1), -4);
        check.due("told the other way", d.game(1, 0, 4, 0, 0), -4);
        check.due("told the other way", d.game(1, 0, 4, 0, 1), 6);
        check.due("two who are not heard", d.game(1, 2, 2, 2, 0), -2);
        check.due("the sixth", Check.ride("d;d;d;d;d;d").game(5, 4, 0, 0, 0), 0);
        check.due("a seventh", Check.ride("d;d;d;d;d;d").game(6, 4, 0, 0, 0), HIDDEN);
        // It is apart: his VOICE is as it was.
        check.due("voice", d.man(1, 1), 5);
        check.due("coins", d.rule(4), 30);
    }
}

/** Promise 12: voice. */
public final class Promise12VoiceTest {
    private static Check check;

    public static void main(String[] args) {
        check = new Check("Promise12VoiceTest");
        noughtToNine();
        justEnough();
        noSuchMan();
        outOfBounds();
        itIsSo();
        tooFew();
        ofSeveralTheFirst();
        anAct();
        check.end();
    }

    /** "his VOICE is set (0 .. 9; 2 COINS)" */
    private static void noughtToNine() {
        GallopDispatch x = Check.ride("sc99;dv5;dv5");
        int coins = 99;
        for (int v = -1; v <= 10; v++) {
            boolean set = v >= 0 && v <= 9 && v != Check.man(x, 0, 1);
            coins -= set ? 2 : 0;
            long before = Check.man(x, 0, 1);
            check.due("voice(0, " + v + ")", x.voice(0, v), set ? coins : -1);
            check.due("his voice", x.man(0, 1), set ? v : before);
            check.due("coins", x.rule(4), coins);
        }
        check.due("the other's", x.man(1, 1), 5);
    }

    private static void justEnough() {
        for (int coins = 0; coins <= 4; coins++) {
            GallopDispatch x = Check.ride("sc" + coins + ";d");
            check.due("louder for " + coins, x.voice(0, 6), coins < 2 ? -1 : coins - 2);
            check.due("status(3)", x.status(3), coins < 2 ? 1 : 0);
            check.due("acts", x.count(10), coins < 2 ? 0 : 1);
        }
    }

    private static void noSuchMan() {
        Refusal.due(check, "voice(-1, 1)", Rich::made, x -> x.voice(-1, 1), -1, 0);
        Refusal.due(check, "voice(3, 1)", Rich::made, x -> x.voice(3, 1), -1, 0);
        for (int wild : Refusal.wildNumbers()) {
            GallopDispatch x = Rich.made();
            check.due("voice(" + wild + ", 1)", x.voice(wild, 1), -1);
            check.due("status(0)", x.status(0), 2);
        }
        GallopDispatch six = Check.ride("d;d;d;d;d;d");
        check.due("the sixth", six.voice(5, 6), 28);
        check.due("a seventh", six.voice(6, 6), -1);
    }

    private static void outOfBounds() {
        Refusal.due(check, "voice(0, -1)", Rich::made, x -> x.voice(0, -1), -1, 1);
        Refusal.due(check, "voice(0, 10)", Rich::made, x -> x.voice(0, 10), -1, 1);
        for (int wild : Refusal.wildNumbers()) {
            GallopDispatch x = Rich.made();
            check.due("voice(0, " + wild + ")", x.voice(0, wild), -1);
            check.due("status(1)", x.status(1), 2);
        }
    }

    private static void itIsSo() {
        Refusal.due(check, "the voice he has", Rich::made, x -> x.voice(2, 4), -1, 2);
        GallopDispatch x = Check.ride("dv0;dv9");
        check.due("nought again", x.voice(0, 0), -1);
        check.due("nine again", x.voice(1, 9), -1);
        check.due("status(2)", x.status(2), 2);
        check.due("one", x.voice(0, 1), 28);
        check.due("eight", x.voice(1, 8), 26);
    }

    private static void tooFew() {
        Refusal.due(check, "for one coin", () -> Rich.withCoins(1), x -> x.voice(0, 9), -1, 3);
        Refusal.due(check, "for none", () -> Rich.withCoins(0), x -> x.voice(0, 0), -1, 3);
    }

    private static void ofSeveralTheFirst() {
        Refusal.due(check, "no such man, out of bounds", () -> Rich.withCoins(0), x -> x.voice(3, 10), -1, 0);
        Refusal.due(check, "no such man, too few", () -> Rich.withCoins(0), x -> x.voice(-1, 0), -1, 0);
        Refusal.due(check, "out of bounds, too few", () -> Rich.withCoins(1), x -> x.voice(0, 10), -1, 1);
        Refusal.due(check, "it is so, too few", () -> Rich.withCoins(1), x -> x.voice(2, 4), -1, 2);
    }

    private static void anAct() {
        GallopDispatch x = Check.ride("sc9;dv5");
        x.voice(0, 7);
        check.due("acts", x.count(10), 1);
        check.due("undone", x.undo(), 0);
        check.due("his voice", x.man(0, 1), 5);
        check.due("coins", x.rule(4), 9);
    }
}

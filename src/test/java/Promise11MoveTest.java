/** Promise 11: move. */
public final class Promise11MoveTest {
    private static Check check;

    public static void main(String[] args) {
        check = new Check("Promise11MoveTest");
        aCoinForEachStep();
        bounds();
        justEnough();
        noSuchOne();
        outOfBounds();
        itIsSo();
        tooFew();
        ofSeveralTheFirst();
        anAct();
        check.end();
    }

    private static void aCoinForEachStep() {
        GallopDispatch x = Check.ride("sl30c99;dx15;dx15");
        check.due("one on", x.move(0, 16), 98);
        check.due("one back", x.move(0, 15), 97);
        check.due("to the end", x.move(0, 30), 82);
        check.due("to the start", x.move(0, 0), 52);
        check.due("to the end again", x.move(0, 30), 22);
        check.due("he stands there", x.man(0, 0), 30);
        check.due("coins", x.rule(4), 22);
        check.due("the other stands where he did", x.man(1, 0), 15);
    }

    /** "along the road": 0 .. LENGTH */
    private static void bounds() {
        for (int length = 5; length <= 30; length += 25) {
            int end = length;
            check.due("the start", Check.ride("sl" + end + "c99;dx3").move(0, 0), 96);
            check.due("the end", Check.ride("sl" + end + "c99;dx3").move(0, end), 99 - (end - 3));
            check.due("ahead of it", Check.ride("sl" + end + "c99;dx3").move(0, -1), -1);
            check.due("behind it", Check.ride("sl" + end + "c99;dx3").move(0, end + 1), -1);
        }
    }

    private static void justEnough() {
        for (int coins = 0; coins <= 8; coins++) {
            GallopDispatch x = Check.ride("sc" + coins + ";dx5");
            check.due("seven steps for " + coins, x.move(0, 12), coins < 7 ? -1 : coins - 7);
            check.due("he stands", x.man(0, 0), coins < 7 ? 5 : 12);
            check.due("status(3)", x.status(3), coins < 7 ? 1 : 0);
            check.due("acts", x.count(10), coins < 7 ? 0 : 1);
            GallopDispatch y = Check.ride("sc" + coins + ";dx12");
            check.due("seven steps back for " + coins, y.move(0, 5), coins < 7 ? -1 : coins - 7);
        }
    }

    /** "no such one (STATUS 0)" */
    private static void noSuchOne() {
        Refusal.due(check, "move(-1, 1)", Rich::made, x -> x.move(-1, 1), -1, 0);
        Refusal.due(check, "move(3, 1)", Rich::made, x -> x.move(3, 1), -1, 0);
        for (int wild : Refusal.wildNumbers()) {
            GallopDispatch x = Rich.made();
            check.due("move(" + wild + ", 1)", x.move(wild, 1), -1);
            check.due("status(0)", x.status(0), 2);
        }
        GallopDispatch six = Check.ride("d;d;d;d;d;d");
        check.due("the sixth", six.move(5, 6), 29);
        check.due("a seventh", six.move(6, 6), -1);
    }

    /** "out of bounds (1)" */
    private static void outOfBounds() {
        Refusal.due(check, "move(0, -1)", Rich::made, x -> x.move(0, -1), -1, 1);
        Refusal.due(check, "move(0, 13)", Rich::made, x -> x.move(0, 13), -1, 1);
        for (int wild : Refusal.wildNumbers()) {
            GallopDispatch x = Rich.made();
            check.due("move(0, " + wild + ")", x.move(0, wild), -1);
            check.due("status(1)", x.status(1), 2);
        }
    }

    /** "it is so (2)" */
    private static void itIsSo() {
        Refusal.due(check, "move to where he stands", Rich::made, x -> x.move(1, 9), -1, 2);
        GallopDispatch x = Check.ride("sl5;dx0;dx5");
        check.due("at the start", x.move(0, 0), -1);
        check.due("at the end", x.move(1, 5), -1);
        check.due("status(2)", x.status(2), 2);
        // Where another one stands is another place.
        check.due("beside the other", x.move(0, 5), 25);
        check.due("it is so now", x.move(0, 5), -1);
    }

    /** "too few (3)" */
    private static void tooFew() {
        Refusal.due(check, "five steps for four", Rich::made, x -> x.move(0, 9), -1, 3);
        Refusal.due(check, "a step for none", () -> Rich.withCoins(0), x -> x.move(0, 5), -1, 3);
        Refusal.due(check, "a step back for none", () -> Rich.withCoins(0), x -> x.move(0, 3), -1, 3);
    }

    /** "of several the first" */
    private static void ofSeveralTheFirst() {
        Refusal.due(check, "no such man, out of bounds", () -> Rich.withCoins(0), x -> x.move(3, 13), -1, 0);
        Refusal.due(check, "no such man, too few", () -> Rich.withCoins(0), x -> x.move(-1, 0), -1, 0);
        Refusal.due(check, "out of bounds, too few", () -> Rich.withCoins(0), x -> x.move(0, 13), -1, 1);
        Refusal.due(check, "it is so, without a coin", () -> Rich.withCoins(0), x -> x.move(1, 9), -1, 2);
    }

    private static void anAct() {
        GallopDispatch x = Check.ride("sc9;dx5");
        x.move(0, 7);
        check.due("acts", x.count(10), 1);
        check.due("no day", x.count(5), 0);
        check.due("undone", x.undo(), 0);
        check.due("he stands", x.man(0, 0), 5);
        check.due("coins", x.rule(4), 9);
    }
}

/** Promise 8: ford. */
public final class Promise08FordTest {
    private static Check check;

    public static void main(String[] args) {
        check = new Check("Promise08FordTest");
        withoutItems();
        leastAndGreatest();
        depthNow();
        noSuchOnes();
        check.end();
    }

    private static void fordIs(String why, GallopDispatch x, int ford, int at, int depth) {
        check.due(why + ": ford(" + ford + ", 0)", x.ford(ford, 0), at);
        check.due(why + ": ford(" + ford + ", 1)", x.ford(ford, 1), depth);
    }

    /** "x where it is (10), d DEPTH (3)" */
    private static void withoutItems() {
        fordIs("a bare f", Check.ride("d;f"), 0, 10, 3);
        fordIs("x alone", Check.ride("d;fx11"), 0, 11, 3);
        fordIs("d alone", Check.ride("d;fd4"), 0, 10, 4);
        fordIs("a bare f behind a full one", Check.ride("d;fx9d9;f"), 1, 10, 3);
    }

    private static void leastAndGreatest() {
        GallopDispatch x = Check.ride("sl30;fx0d0;d;fx30d9;fx29d8;fx1d1;fd5x5");
        fordIs("the least", x, 0, 0, 0);
        fordIs("the greatest", x, 1, 30, 9);
        fordIs("one less", x, 2, 29, 8);
        fordIs("one more", x, 3, 1, 1);
        fordIs("the fifth", x, 4, 5, 5);
        fordIs("a sixth", x, 5, -1, -1);
    }

    private static void depthNow() {
        GallopDispatch x = Check.ride("d;fx4d2;fx6d9");
        x.fill(0);
        fordIs("filled", x, 0, 4, 1);
        x.fill(0);
        fordIs("filled again", x, 0, 4, 0);
        fordIs("the other one", x, 1, 6, 9);
        x.undo();
        fordIs("undone", x, 0, 4, 1);
    }

    /** "NONE: no such ones" */
    private static void noSuchOnes() {
        int[][] none = {{-1, 0}, {3, 0}, {-1, 1}, {3, 1}, {0, -1}, {0, 2}, {2, 2}, {2, -1}, {5, 0}};
        for (int[] one : none) {
            Refusal.due(check, "ford(" + one[0] + ", " + one[1] + ")", Rich::made,
                x -> x.ford(one[0], one[1]), -1, Refusal.NO_STATUS);
        }
        GallopDispatch x = Rich.made();
        for (int wild : Refusal.wildNumbers()) {
            fordIs("wild", x, wild, -1, -1);
            check.due("ford(0, " + wild + ")", x.ford(0, wild), -1);
        }
        fordIs("the last one", x, 2, 9, 0);
        fordIs("no ford at all", Check.ride("d"), 0, -1, -1);
        fordIs("no ride", new GallopDispatch(), 0, -1, -1);
        Refusal.onlyAsks(check, "ford(0, 0)", Rich::made, y -> y.ford(0, 0));
        Refusal.onlyAsks(check, "ford(0, 1)", Rich::made, y -> y.ford(0, 1));
    }
}

/** Promise 9: law. */
public final class Promise09LawTest {
    private static Check check;

    public static void main(String[] args) {
        check = new Check("Promise09LawTest");
        noneAtFirst();
        bounds();
        noneAgain();
        noAct();
        refused();
        check.end();
    }

    /** "none at first", told or not */
    private static void noneAtFirst() {
        GallopDispatch x = new GallopDispatch();
        check.due("none holds", x.count(4), -1);
        check.due("law(0), there is none", x.law(0), false);
        check.due("law(NONE)", x.law(-1), true);
        check.due("none holds", x.count(4), -1);
        Check.tell(x, "y:7", 1);
        check.due("told, but it does not hold", x.count(4), -1);
        check.due("law(0)", x.law(0), true);
        check.due("it holds", x.count(4), 0);
    }

    /** "False: no such one": as many as there are is one too many. */
    private static void bounds() {
        for (int laws = 0; laws <= 4; laws++) {
            GallopDispatch x = Check.ride("d");
            for (int k = 0; k < laws; k++) {
                Check.tell(x, "y:" + (k + 2), 1);
            }
            for (int law = -2; law <= 5; law++) {
                boolean there = law >= -1 && law < laws;
                int before = x.count(4);
                check.due("law(" + law + ") of " + laws, x.law(law), there);
                check.due("which holds", x.count(4), there ? law : before);
                int holding = x.count(4);
                // At 5 he is heard 5 - 0 - 1 + 0 without a LAW.
                check.due("heard by it", x.heard(0, 5), holding < 0 ? 4 : holding + 2);
            }
            for (int wild : Refusal.wildNumbers()) {
                check.due("law(" + wild + ") of " + laws, x.law(wild), false);
            }
        }
    }

    private static void noneAgain() {
        GallopDispatch x = Check.ride("d");
        Check.hold(x, "y:7");
        check.due("by the law", x.heard(0, 0), 7);
        check.due("the same again", x.law(0), true);
        check.due("none", x.law(-1), true);
        check.due("none again", x.law(-1), true);
        check.due("without", x.heard(0, 5), 4);
        check.due("none holds", x.count(4), -1);
    }

    /** Which holds is no ACT, and neither UNDONE nor kept by an IMAGE. */
    private static void noAct() {
        GallopDispatch x = Rich.made();
        int acts = x.count(10);
        x.law(0);
        check.due("acts", x.count(10), acts);
        x.undo();
        check.due("still holds", x.count(4), 0);
        x.back();
        check.due("still holds", x.count(4), 0);
    }

    private static void refused() {
        Refusal.due(check, "law(2) of two", Rich::made, x -> x.law(2) ? 1 : 0, 0, Refusal.NO_STATUS);
        Refusal.due(check, "law(-2)", Rich::made, x -> x.law(-2) ? 1 : 0, 0, Refusal.NO_STATUS);
        Refusal.due(check, "law(MAX)", Rich::made, x -> x.law(Integer.MAX_VALUE) ? 1 : 0, 0, Refusal.NO_STATUS);
        Refusal.onlyAsks(check, "the law that holds", Rich::made, x -> x.law(1) ? 1 : 0);
    }
}

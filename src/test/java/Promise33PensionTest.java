/** Promise 33: pension. */
public final class Promise33PensionTest {
    private static Check check;

    public static void main(String[] args) {
        check = new Check("Promise33PensionTest");
        noSuchOnes();
        outOfBounds();
        byMentions();
        byDeeds();
        allNought();
        check.end();
    }

    /** "NONE: no such ones" */
    private static void noSuchOnes() {
        int[][] none = {{-1, 0}, {3, 0}, {-1, 1}, {3, 1}, {0, -1}, {0, 2}, {2, 2}, {2, -1}};
        for (int[] one : none) {
            Refusal.due(check, "pension(" + one[0] + ", 100, " + one[1] + ")", Rich::made,
                x -> x.pension(one[0], 100, one[1]), -1, Refusal.NO_STATUS);
        }
        for (int wild : Refusal.wildNumbers()) {
            check.due("pension(" + wild + ", 1, 0)", Rich.made().pension(wild, 1, 0), -1);
            check.due("pension(0, 1, " + wild + ")", Rich.made().pension(0, 1, wild), -1);
        }
        check.due("without a ride", new GallopDispatch().pension(0, 0, 0), -1);
        check.due("without a ride", new GallopDispatch().pension(0, 0, 1), -1);
        Refusal.onlyAsks(check, "pension(0, 999, 0)", Rich::made, x -> x.pension(0, 999, 0));
        Refusal.onlyAsks(check, "pension(1, 999, 1)", Rich::made, x -> x.pension(1, 999, 1));
    }

    /** "n (0 .. 999) COINS" */
    private static void outOfBounds() {
        for (int what = 0; what <= 1; what++) {
            int by = what;
            Refusal.due(check, "pension(0, -1)", Rich::made, x -> x.pension(0, -1, by), -1, Refusal.NO_STATUS);
            Refusal.due(check, "pension(0, 1000)", Rich::made, x -> x.pension(0, 1000, by), -1, Refusal.NO_STATUS);
            for (int wild : Refusal.wildNumbers()) {
                check.due("pension(0, " + wild + ")", Rich.made().pension(0, wild, by), -1);
            }
            GallopDispatch x = Check.ride("d");
            check.due("of nought", x.pension(0, 0, by), 0);
            check.due("of one", x.pension(0, 1, by), 1);
            check.due("of 998", x.pension(0, 998, by), 998);
            check.due("of 999", x.pension(0, 999, by), 999);
        }
    }

    /** "for a MAN n times his MENTIONS by all, cut" */
    private static void byMentions() {
        GallopDispatch x = Check.ride("sl5p1w20m0;dr1;dr2;dr3");
        Check.hold(x, "y:n<3&r=1?9;y:n>2&n<5&r=2?9");
        check.due("three of five", x.pension(0, 999, 0), 599);
        check.due("two of five", x.pension(1, 999, 0), 399);
        check.due("none of five", x.pension(2, 999, 0), 0);
        check.due("three of five of one", x.pension(0, 1, 0), 0);
        check.due("three of five of two", x.pension(0, 2, 0), 1);
        check.due("three of five of nought", x.pension(0, 0, 0), 0);
        check.due("two of five of two", x.pension(1, 2, 0), 0);
        check.due("two of five of three", x.pension(1, 3, 0), 1);
        GallopDispatch all = Check.ride("sl30p1w20m0;d");
        Check.hold(all, "y:9");
        check.due("twenty of twenty", all.pension(0, 999, 0), 999);
    }

    private static void byDeeds() {
        GallopDispatch x = Check.ride("de9;de0;de1;de9;de9;de9");
        check.due("nine of 37", x.pension(0, 999, 1), 243);
        check.due("none", x.pension(1, 999, 1), 0);
        check.due("one of 37", x.pension(2, 999, 1), 27);
        check.due("one of 37 of 36", x.pension(2, 36, 1), 0);
        check.due("one of 37 of 37", x.pension(2, 37, 1), 1);
        x.deed(1);
        check.due("one of 38 now", x.pension(1, 38, 1), 1);
        check.due("one of 38 now", x.pension(1, 37, 1), 0);
    }

    /** "(all 0: 0)" */
    private static void allNought() {
        GallopDispatch x = Check.ride("sm0;de0;de0");
        Check.hold(x, "y:0");
        check.due("no mentions at all", x.pension(0, 999, 0), 0);
        check.due("no deeds at all", x.pension(1, 999, 1), 0);
        x.deed(0);
        check.due("one deed", x.pension(0, 999, 1), 999);
        check.due("not his", x.pension(1, 999, 1), 0);
        check.due("mentions are still none", x.pension(0, 999, 0), 0);
    }
}

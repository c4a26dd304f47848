/** Promise 28: put. */
public final class Promise28PutTest {
    private static Check check;

    public static void main(String[] args) {
        check = new Check("Promise28PutTest");
        noSuchWhat();
        anotherPlaceThanNow();
        asTheyStandNow();
        firstAndLast();
        ofSeveralTheLeast();
        eachByHimself();
        check.end();
    }

    private static void putIs(String why, String ride, String law, int that, int many) {
        GallopDispatch x = Check.ride(ride);
        Check.hold(x, law);
        check.due(why + ": that", x.put(0), that);
        check.due(why + ": how many", x.put(1), many);
    }

    /** "NONE: no RIDE, no such what" */
    private static void noSuchWhat() {
        Refusal.due(check, "put(-1)", Rich::made, x -> x.put(-1), -1, Refusal.NO_STATUS);
        Refusal.due(check, "put(2)", Rich::made, x -> x.put(2), -1, Refusal.NO_STATUS);
        for (int wild : Refusal.wildNumbers()) {
            check.due("put(" + wild + ")", Rich.made().put(wild), -1);
        }
        check.due("without a ride", new GallopDispatch().put(0), -1);
        check.due("without a ride", new GallopDispatch().put(1), -1);
        Refusal.onlyAsks(check, "put(0)", Rich::made, x -> x.put(0));
        Refusal.onlyAsks(check, "put(1)", Rich::made, x -> x.put(1));
    }

    /** "0 .. LENGTH, another place than now" */
    private static void anotherPlaceThanNow() {
        putIs("he stands at 0", "sl5p1m0;dx0", "y:9", 1, 1);
        putIs("he stands at 1", "sl5p1m0;dx1", "y:9", 0, 1);
        putIs("he is heard only where he stands", "sl5p1m0;dx0", "y:d=0&n=0?9", 1, 0);
        putIs("he is heard only at 3, where he stands", "sl5p1m0;dx3", "y:d=0&n=3?9", 0, 0);
        putIs("heard only from behind the road", "sl5p1m0;dx5", "y:d>5?9", 0, 0);
        putIs("any move loses one", "sl5p1m0;dx0;dx3", "y:d=0&n=0?9;y:d=0&n=3?9", 1, 1);
    }

    /** "than now": not than told. */
    private static void asTheyStandNow() {
        GallopDispatch x = Check.ride("sl5p1m0;dx3");
        Check.hold(x, "y:9");
        x.move(0, 0);
        check.due("he stands at 0 now", x.put(0), 1);
        GallopDispatch y = Check.ride("sl5p1m0;dx0;dx5");
        Check.hold(y, "y:d=0&n=0?9;y:d=0&n=4?9");
        y.move(0, 4);
        // Now 0 is mentioned at 4: the other at 0 makes two of them.
        check.due("the other to 0", y.put(0), 100);
        check.due("two", y.put(1), 2);
    }

    private static void firstAndLast() {
        putIs("the last man, the last place", "sl5p1m0;dr1;dx0r2", "y:d=0&n=5&r=2?9", 105, 1);
        putIs("the sixth, the last place", "sl30p1m0;d;d;d;d;d;dr2", "y:d=0&n=30&r=2?9", 530, 1);
        putIs("the sixth, the first place", "sl30p1m0;d;d;d;d;d;dr2", "y:d=0&n=0&r=2?9", 500, 1);
        putIs("the first, the last place", "sl30p1m0;dr2;d;d;d;d;d", "y:d=0&n=30&r=2?9", 30, 1);
    }

    private static void ofSeveralTheLeast() {
        putIs("nobody is ever heard", "sl5p1m0;dx0;dx0", "y:0", 1, 0);
        putIs("nobody is ever heard, from 2", "sl5p1m0;dx2;dx0", "y:0", 0, 0);
        putIs("both at 0: the first to 1", "sl5p1m0;dx0;dx0", "y:d=0?9", 1, 2);
        putIs("both at 3: the first to 0", "sl5p1m0;dx3;dx3", "y:d=0?9", 0, 2);
        putIs("a later man's is better", "sl5p1m0;dx0;dx0", "y:d=0&n=0?9;y:d=0&n=4&r=1?5", 4, 2);
        putIs("all are mentioned as it is", "sl5p1m0w20;dx0;dx3", "y:d=0?9", 1, 2);
    }

    /** What was tried for one is undone for the next; room counts as it is. */
    private static void eachByHimself() {
        putIs("only the second can do it", "sl5p1m0;dx0r0;dx0r1;dx5r2", "y:r=1&n=4&d=0?9;y:r<1&n=0&d=0?9;y:r=2&n=5?9",
            104, 3);
        putIs("room for one", "sl5p1m0w1;dx0;dx0;dx0", "y:d=0?9", 1, 1);
        putIs("room for two", "sl5p1m0w2;dx0;dx0;dx0", "y:d=0?9", 1, 2);
        putIs("a ford in the way", "sl5p1m0;dx2;dx2;fx0d1;fx1d1", "y:d=0?9", 3, 2);
    }
}

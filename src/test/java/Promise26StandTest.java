/** Promise 26: stand. */
public final class Promise26StandTest {
    private static Check check;

    public static void main(String[] args) {
        check = new Check("Promise26StandTest");
        noSuchOnes();
        fromTheFirstToTheLast();
        ofSeveralTheLeast();
        never();
        othersStayWhereTheyAre();
        check.end();
    }

    private static void standIs(String why, String ride, String law, int man, int where, int many) {
        GallopDispatch x = Check.ride(ride);
        Check.hold(x, law);
        check.due(why + ": where", x.stand(man, 0), where);
        check.due(why + ": how many", x.stand(man, 1), many);
    }

    /** "NONE: no such ones" */
    private static void noSuchOnes() {
        int[][] none = {{-1, 0}, {3, 0}, {3, 1}, {0, -1}, {0, 2}, {2, 2}, {3, 2}};
        for (int[] one : none) {
            Refusal.due(check, "stand(" + one[0] + ", " + one[1] + ")", Rich::made,
                x -> x.stand(one[0], one[1]), -1, Refusal.NO_STATUS);
        }
        for (int wild : Refusal.wildNumbers()) {
            check.due("stand(" + wild + ", 0)", Rich.made().stand(wild, 0), -1);
            check.due("stand(0, " + wild + ")", Rich.made().stand(0, wild), -1);
        }
        check.due("without a ride", new GallopDispatch().stand(0, 0), -1);
        Refusal.onlyAsks(check, "stand(0, 0)", Rich::made, x -> x.stand(0, 0));
        Refusal.onlyAsks(check, "stand(2, 1)", Rich::made, x -> x.stand(2, 1));
    }

    private static void fromTheFirstToTheLast() {
        for (int place = 0; place <= 10; place++) {
            standIs("only at " + place, "sl10p1m0;dx5", "y:d=0&n=" + place + "?9", 0, place, 1);
        }
        standIs("only behind the road", "sl9p1m0;dx5", "y:d=0&n=10?9", 0, 0, 0);
        standIs("only from behind the road", "sl5p1m0;dx5", "y:d>5?9", 0, 0, 0);
        standIs("only from the end of the road", "sl5p1m0;dx3", "y:d>4?9", 0, 0, 1);
        standIs("only from the end of the road, at its start", "sl5p1m0;dx3", "y:d>4&n=0?9", 0, 5, 1);
        standIs("the greatest length", "sl30p1m0;dx5", "y:d=0&n=30?9", 0, 30, 1);
        // He is heard up to ahead of halfway: from 29 and from 30 at fifteen steps.
        standIs("the farther the better", "sl30p1w20m0;dx30", "y:n<d?1", 0, 29, 15);
        standIs("the farther the better, to the room", "sl30p1w9m0;dx30", "y:n<d?1", 0, 17, 9);
    }

    private static void ofSeveralTheLeast() {
        standIs("at 3 and at 7", "sl10p1m0;dx7", "y:d=0&n=3?9;y:d=0&n=7?9", 0, 3, 1);
        standIs("anywhere, from the end", "sl10p1w20m0;dx10", "y:9", 0, 0, 11);
        standIs("anywhere on the pace", "sl10p3m0;dx10", "y:d=0&n>0?9", 0, 3, 1);
        standIs("a later one with more", "sl10p1w20m0;dx0", "y:d<2?9", 0, 1, 3);
    }

    private static void never() {
        standIs("never heard", "sl10p1m0;dx7", "y:0", 0, 0, 0);
        standIs("heard, but it is the other's slip", "sl10p5m1;dx7;dx7", "y:1", 0, 0, 0);
        standIs("off the pace alone", "sl10p5m0;dx7", "y:d=0&n=7?9", 0, 0, 0);
    }

    private static void othersStayWhereTheyAre() {
        standIs("beside a lower one he is not heard", "sl5p1m0;dx0;dx5", "y:d=0?9", 1, 1, 1);
        standIs("a higher one is in nobody's way", "sl5p1m0;dx5;dx0", "y:d=0?9", 0, 0, 1);
        standIs("a ford", "sl5p1m0;dx5;fx0d1;fx1d1", "y:d=0?9", 0, 2, 1);
        standIs("the last of six", "sl5p1m0;dx0;dx1;dx2;dx3;dx4;dx0", "y:d=0?9", 5, 5, 1);
        standIs("all is taken", "sl5p1m0;dx0;dx1;dx2;dx3;dx4;dx5", "y:d=0&n<5?9", 5, 0, 0);
    }
}

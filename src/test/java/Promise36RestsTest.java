/** Promise 36: rests. */
public final class Promise36RestsTest {
    private static Check check;

    public static void main(String[] args) {
        check = new Check("Promise36RestsTest");
        noSuchOnes();
        noRests();
        silence();
        several();
        theGreatest();
        asGamesTell();
        check.end();
    }

    private static void restsAre(String why, GallopDispatch d, int one, int other, int... due) {
        check.due(why + ": how many", d.rests(one, other, -1), due.length);
        for (int i = 0; i < due.length; i++) {
            check.due(why + ": rests(" + i + ")", d.rests(one, other, i), due[i]);
        }
        check.due(why + ": none behind", d.rests(one, other, due.length), -1);
        check.due(why + ": none ahead", d.rests(one, other, -2), -1);
    }

    /** "NONE: no such one, no such MEN, alike" */
    private static void noSuchOnes() {
        int[][] none = {{-1, 0, -1}, {3, 0, -1}, {0, -1, -1}, {0, 3, -1}, {0, 0, -1}, {2, 2, 0}, {0, 1, -2}, {0, 1, 25}};
        for (int[] one : none) {
            Refusal.due(check, "rests(" + one[0] + ", " + one[1] + ", " + one[2] + ")", Rich::made,
                x -> x.rests(one[0], one[1], one[2]), -1, Refusal.NO_STATUS);
        }
        for (int wild : Refusal.wildNumbers()) {
            GallopDispatch x = Rich.made();
            check.due("one " + wild, x.rests(wild, 1, -1), -1);
            check.due("other " + wild, x.rests(0, wild, -1), -1);
            check.due("both " + wild, x.rests(wild, wild, -1), -1);
            check.due("i " + wild, x.rests(0, 1, wild), -1);
        }
        check.due("without a ride", new GallopDispatch().rests(0, 1, -1), -1);
        check.due("one man alone", Check.ride("d").rests(0, 1, -1), -1);
        Refusal.onlyAsks(check, "rests(0, 1, -1)", Rich::made, x -> x.rests(0, 1, -1));
        Refusal.onlyAsks(check, "rests(2, 1, 0)", Rich::made, x -> x.rests(2, 1, 0));
    }

    private static GallopDispatch game(String ride, String law) {
        GallopDispatch d = Check.ride(ride);
        Check.hold(d, law);
        return d;
    }

    /** Whoever is louder has all: the lower one follows, the higher one goes beyond, and at last gives up. */
    private static void noRests() {
        restsAre("no rest", game("sl10p5m0;dv0;dv0", "y:v+1"), 0, 1);
    }

    /** Where shouting is of no use, neither shouts. */
    private static void silence() {
        restsAre("never heard", game("sm0;d;d", "y:0"), 0, 1, 0);
        restsAre("always heard", game("sm0;dv5;d", "y:9"), 0, 1, 0);
        restsAre("nine already", game("sl10p5m0;dv9;dv9", "y:v"), 0, 1, 0);
    }

    /** Two words, one each gains by 3 steps of voice: as much as it costs, so both are as good. */
    private static void several() {
        // 0 is heard at 0 with voice 3 and more; the other at 5: 3 for the word, 3 for the shouting.
        GallopDispatch d = game("sl5p5m0;dv0r1;dv0r2", "y:r=1&n=0&v>2?9;y:r=2&n=5&v>2?9");
        restsAre("both as good", d, 0, 1, 0, 3, 30, 33);
        restsAre("told the other way", d, 1, 0, 0, 3, 30, 33);
        GallopDispatch cheap = game("sl5p5m0;dv0r1;dv0r2", "y:r=1&n=0&v>1?9;y:r=2&n=5&v>2?9");
        restsAre("his is better shouted", cheap, 0, 1, 20, 23);
        restsAre("told the other way", cheap, 1, 0, 2, 32);
        GallopDispatch dear = game("sl5p5m0;dv0r1;dv0r2", "y:r=1&n=0&v>3?9;y:r=2&n=5&v>2?9");
        restsAre("his is not worth it", dear, 0, 1, 0, 3);
    }

    /** "10 times x and y": 44 is the last of them. */
    private static void theGreatest() {
        GallopDispatch d = game("sl10p5m0;dv0r1;dv0r2", "y:r=1&n=0&v=4?9;y:r=1&n=5&v=4?9;y:r=2&n=10&v=4?9");
        // 0 has two words by 4: 6 less 4; the other one word: 3 less 4, so he is still.
        restsAre("40", d, 0, 1, 40);
        GallopDispatch e = game("sl20p5m0;dv0r1;dv0r2", "y:r=1&n<10&v=4?9;y:r=2&n>9&v=4?9");
        restsAre("44", e, 0, 1, 44);
    }

    /** By its words: neither has more by another of his own, whatever the ride. */
    private static void asGamesTell() {
        String[] rides = {"sl12p1w9m1;dx2v5;dx5v5;dx9v7", "sl20p2w6m2;dx4v3r5;dx8v4;dx12v2r9", "sl9p1w5m0;dv9;dv8;dv7"};
        for (String text : rides) {
            int[][] pairs = {{0, 1}, {2, 0}};
            for (int[] two : pairs) {
                GallopDispatch d = Check.ride(text);
                int[][] mine = new int[5][5];
                int[][] his = new int[5][5];
                for (int x = 0; x < 5; x++) {
                    for (int y = 0; y < 5; y++) {
                        mine[x][y] = d.game(two[0], two[1], x, y, 0);
                        his[x][y] = d.game(two[0], two[1], x, y, 1);
                    }
                }
                restsAre(text, d, two[0], two[1], rests(mine, his));
            }
        }
    }

    private static int[] rests(int[][] mine, int[][] his) {
        java.util.List<Integer> found = new java.util.ArrayList<>();
        for (int x = 0; x < 5; x++) {
            for (int y = 0; y < 5; y++) {
                boolean rest = true;
                for (int z = 0; z < 5; z++) {
                    rest &= mine[z][y] <= mine[x][y] && his[x][z] <= his[x][y];
                }
                if (rest) {
                    found.add(10 * x + y);
                }
            }
        }
        return found.stream().mapToInt(Integer::intValue).toArray();
    }
}

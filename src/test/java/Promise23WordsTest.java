/** Promise 23: words, and the Terms' sentences on how a RIDE goes. */
public final class Promise23WordsTest {
    private static Check check;

    public static void main(String[] args) {
        check = new Check("Promise23WordsTest");
        noSuchOne();
        noWords();
        eachThatCanBeDivided();
        whileThereIsRoom();
        atLeastOne();
        ofSeveralTheLowest();
        slips();
        slipsOfOneMan();
        fordsTakeNoRoom();
        asItIsNow();
        check.end();
    }

    private static void wordsAre(String why, GallopDispatch x, int... due) {
        check.due(why + ": how many", x.words(-1), due.length);
        for (int i = 0; i < due.length; i++) {
            check.due(why + ": words(" + i + ")", x.words(i), due[i]);
        }
        check.due(why + ": none behind them", x.words(due.length), -1);
    }

    private static GallopDispatch ride(String text, String law) {
        GallopDispatch x = Check.ride(text);
        Check.hold(x, law);
        return x;
    }

    /** "NONE: no such one, no RIDE" */
    private static void noSuchOne() {
        Refusal.due(check, "words(-2)", Rich::made, x -> x.words(-2), -1, Refusal.NO_STATUS);
        Refusal.due(check, "words(5) of five", Rich::made, x -> x.words(5), -1, Refusal.NO_STATUS);
        check.due("five", Rich.made().words(-1), 5);
        check.due("the fifth", Rich.made().words(4) >= 0, true);
        for (int wild : Refusal.wildNumbers()) {
            check.due("words(" + wild + ")", Rich.made().words(wild), -1);
        }
        GallopDispatch none = new GallopDispatch();
        for (int i = -2; i <= 1; i++) {
            check.due("words(" + i + ") without a ride", none.words(i), -1);
        }
        GallopDispatch twenty = ride("sl30p1w20m0;d", "y:9");
        check.due("twenty", twenty.words(-1), 20);
        check.due("the last of twenty", twenty.words(19), 0);
        check.due("a twenty-first", twenty.words(20), -1);
        Refusal.onlyAsks(check, "words(-1)", Rich::made, x -> x.words(-1));
        Refusal.onlyAsks(check, "words(1)", Rich::made, x -> x.words(1));
    }

    private static void noWords() {
        wordsAre("nobody is heard", ride("d;d", "y:0"));
        wordsAre("heard off the pace alone", ride("sp2;d", "y:n/2*2=n?0;y:9"));
        // A longer RIDE that was asked for before leaves no WORDS.
        GallopDispatch x = ride("d", "y:9");
        wordsAre("eight", x, 0, 0, 0, 0, 0, 0, 0, 0);
        Check.hold(x, "y:0");
        wordsAre("none then", x);
    }

    /** "from 0 to LENGTH, but only at each whose number can be divided by PACE" */
    private static void eachThatCanBeDivided() {
        for (int length = 5; length <= 30; length++) {
            for (int pace = 1; pace <= 5; pace++) {
                GallopDispatch x = ride("sl" + length + "p" + pace + "w20m0;d", "y:9");
                check.due("words of " + length + " by " + pace, x.words(-1), Math.min(20, length / pace + 1));
            }
        }
        // Who is heard tells at which step it was: n from 0 to 5 is the man's rank.
        GallopDispatch x = ride("sl5p1w20m0;dr0;dr1;dr2;dr3;dr4;dr5", "y:n=r?9");
        wordsAre("by 1", x, 0, 1, 2, 3, 4, 5);
        x.feedHorse(true);
        wordsAre("by 2", x, 0, 2, 4);
        x.feedHorse(true);
        wordsAre("by 3", x, 0, 3);
        x.feedHorse(true);
        wordsAre("by 4", x, 0, 4);
        x.feedHorse(true);
        wordsAre("by 5", x, 0, 5);
    }

    /** "one WORD, while there is room": 1 .. 20 */
    private static void whileThereIsRoom() {
        for (int room = 1; room <= 20; room++) {
            GallopDispatch x = ride("sl30p1w" + room + "m0;d", "y:9");
            check.due("room for " + room, x.words(-1), room);
            check.due("the last", x.words(room - 1), 0);
            check.due("none behind", x.words(room), -1);
        }
        check.due("room for one more than there are steps", ride("sl10p1w12m0;d", "y:9").words(-1), 11);
        check.due("room for as many", ride("sl10p1w11m0;d", "y:9").words(-1), 11);
        check.due("room for one less", ride("sl10p1w10m0;d", "y:9").words(-1), 10);
        wordsAre("room for the first", ride("sl5p1w1m0;dr0;dr3", "y:n=r?9"), 0);
        wordsAre("room that nobody took ahead", ride("sl5p1w1m0;dr4;dr3", "y:n=r?9"), 1);
    }

    private static void atLeastOne() {
        wordsAre("heard nought", ride("sl5p5m0;d;d", "y:0"));
        wordsAre("heard below nought", ride("sl5p5m0;d;d", "y:0-1"));
        wordsAre("heard one", ride("sl5p5m0;d;d", "y:1"), 0, 0);
        wordsAre("the other heard one", ride("sl5p5m0;dr0;dr1", "y:r"), 1, 1);
    }

    /** "who is HEARD most (of several the lowest)" */
    private static void ofSeveralTheLowest() {
        wordsAre("as loud", ride("sl5p5m0;dr5;dr5", "y:r"), 0, 0);
        wordsAre("one louder", ride("sl5p5m0;dr5;dr6", "y:r"), 1, 1);
        wordsAre("one less loud", ride("sl5p5m0;dr6;dr5", "y:r"), 0, 0);
        wordsAre("two of three", ride("sl5p5m0;dr1;dr7;dr7", "y:r"), 1, 1);
        wordsAre("held at nine, both", ride("sl5p5m0;dr5;dr9", "y:r+5"), 0, 0);
        wordsAre("the sixth", ride("sl5p5m0;dr1;dr1;dr1;dr1;dr1;dr2", "y:r+3"), 5, 5);
    }

    /** "himself, if he is HEARD above 2 or MUD is 0, else (a SLIP) the next MAN by number (behind the last the first)" */
    private static void slips() {
        for (int heard = 1; heard <= 4; heard++) {
            for (int mud = 0; mud <= 2; mud++) {
                boolean slip = heard <= 2 && mud > 0;
                for (int loud = 0; loud < 3; loud++) {
                    String men = ";dr" + (loud == 0 ? 1 : 0) + ";dr" + (loud == 1 ? 1 : 0) + ";dr" + (loud == 2 ? 1 : 0);
                    GallopDispatch x = ride("sl5p5m" + mud + men, "y:r=1?" + heard);
                    int word = slip ? (loud + 1) % 3 : loud;
                    wordsAre("heard " + heard + ", mud " + mud + ", man " + loud, x, word, word);
                    check.due("slips", x.ride(0), slip ? 2 : 0);
                }
            }
        }
        GallopDispatch x = ride("sl5p5m9;d;d;d;d;d;dr2", "y:r");
        wordsAre("behind the sixth the first", x, 0, 0);
        x.rain(0);
        wordsAre("without mud", x, 5, 5);
    }

    private static void slipsOfOneMan() {
        GallopDispatch x = ride("sl5p5m1;d", "y:2");
        wordsAre("the next one is himself", x, 0, 0);
        check.due("slips all the same", x.ride(0), 2);
    }

    private static void fordsTakeNoRoom() {
        GallopDispatch x = ride("sl5p1w3m0;dr0;dr1;dr2;dr3;dr4;dr5;fx0d1;fx2d9;fx3d0", "y:n=r?9");
        wordsAre("steps 1, 3, 4", x, 1, 3, 4);
        x.fill(0);
        wordsAre("steps 0, 1, 3", x, 0, 1, 3);
    }

    private static void asItIsNow() {
        GallopDispatch x = ride("sl10p1w8m0c99;dx1;dx5", "y:d=0?9");
        wordsAre("as told", x, 0, 1);
        x.move(0, 9);
        wordsAre("moved", x, 1, 0);
        x.undo();
        wordsAre("undone", x, 0, 1);
        x.days(2);
        wordsAre("days change nothing of it", x, 0, 1);
    }
}

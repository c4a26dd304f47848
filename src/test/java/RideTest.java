/** Promises 23 to 29: what is set down, and how one would be in it more. */
public final class RideTest {
    /** Heard where they stand alone; pace 2, the ford at 6 drowns the third: words are 0 and 3. */
    private static final String ROAD = "sl10p2w3m1c30;dx0;dx3;dx6;dx8;fx6d1;fx1d0";

    public static void main(String[] args) {
        Check check = new Check("RideTest");
        words(check);
        slips(check);
        rides(check);
        fordsOfEachRide(check);
        room(check);
        stands(check);
        gaits(check);
        puts(check);
        voices(check);
        check.end();
    }

    private static GallopDispatch road() {
        GallopDispatch x = Check.ride(ROAD);
        Check.hold(x, "y:d=0?9");
        return x;
    }

    private static void words(Check check) {
        GallopDispatch x = road();
        check.due("how many", x.words(-1), 2);
        check.due("words(0)", x.words(0), 0);
        check.due("words(1)", x.words(1), 3);
        check.due("words(2)", x.words(2), -1);
        check.due("words(-2)", x.words(-2), -1);
        int[] mentions = {1, 0, 0, 1, -1};
        for (int man = 0; man < 5; man++) {
            check.due("mentions(" + man + ")", x.mentions(man), mentions[man]);
        }
        check.due("mentions(-1)", x.mentions(-1), -1);
        x.fill(0);
        check.due("the ford filled", x.words(-1), 3);
        check.due("words(1)", x.words(1), 2);
        // Alike loud everywhere: the lowest, till there is no room.
        Check.hold(x, "y:4");
        check.due("room for three", x.words(-1), 3);
        check.due("the lowest", x.mentions(0), 3);
        check.due("nothing is changed by asking", x.count(10), 1);
    }

    private static void slips(Check check) {
        GallopDispatch x = Check.ride("sl6p1w20m1;dx1v1;dx3v2;dx5v3");
        Check.hold(x, "y:d=0?v");
        check.due("slips", x.ride(0), 2);
        check.due("the next one", x.words(0), 1);
        check.due("the next one", x.words(1), 2);
        check.due("himself, above 2", x.words(2), 2);
        check.due("left out", x.ride(1), 1);
        x.voice(2, 2);
        check.due("slips", x.ride(0), 3);
        check.due("behind the last one the first", x.words(2), 0);
        check.due("left out", x.ride(1), 0);
        x.rain(0);
        check.due("no slips without mud", x.ride(0), 0);
        check.due("himself", x.words(2), 2);
        GallopDispatch one = Check.ride("sl6p3;dv2r0x0");
        check.due("a slip of one alone", one.ride(0), 1);
        check.due("is himself", one.words(0), 0);
    }

    private static void rides(Check check) {
        GallopDispatch x = road();
        check.due("slips", x.ride(0), 0);
        check.due("left out", x.ride(1), 0b0110);
        check.due("last, room is left", x.ride(2), -1);
        check.due("dry", x.ride(4), 10);
        check.due("time", x.ride(5), 6);
        check.due("ride(6)", x.ride(6), -1);
        check.due("ride(-1)", x.ride(-1), -1);
        x.move(1, 2);
        check.due("last", x.ride(2), 8);
        check.due("left out", x.ride(1), 0b0100);
        x.fill(0);
        check.due("last", x.ride(2), 6);
        check.due("dry", x.ride(4), 11);
        check.due("time", x.ride(5), 5);
        x.feedHorse(true);
        check.due("time, cut", x.ride(5), 3);
        x.feedHorse(false);
        x.feedHorse(false);
        check.due("time at pace 1", x.ride(5), 10);
        check.due("left out, asked first", road().ride(1), 0b0110);
        check.due("slips, asked first", Check.ride("sl5;dv2x0r0").ride(0), 1);
        GallopDispatch one = Check.ride("sl10w1;dx10v9");
        check.due("last, asked first, of room for one", one.ride(2), 4);
    }

    /** A ford is wet where it is, at both ends of the road, too, and not where another ride's was. */
    private static void fordsOfEachRide(Check check) {
        GallopDispatch x = Check.ride("sl30p5w20m0;dr3;fx0;fx30;fx5;fx15d0");
        Check.hold(x, "y:5");
        check.due("words at 10, 15, 20, 25", x.words(-1), 4);
        check.due("dry", x.ride(4), 28);
        check.due("heard at 0", x.heard(0, 0), 0);
        check.due("heard at 30", x.heard(0, 30), 0);
        check.due("heard at 29", x.heard(0, 29), 5);
        Check.tell(x, "sl30p5w20m0;d;fx20", 0);
        check.due("words but at 20", x.words(-1), 6);
        check.due("dry", x.ride(4), 30);
    }

    private static void room(Check check) {
        GallopDispatch x = road();
        check.due("both in two", x.ride(3), 2);
        Check.hold(x, "y:n<8?9;y:d=0?9");
        // 0 at 0, 2 and 4, none at 6, 3 at 8: the fourth word is new.
        check.due("more than there is room for", x.ride(3), 4);
        check.due("as it is", x.mentions(3), 0);
        Check.hold(x, "y:0");
        check.due("nobody ever", x.ride(3), 1);
        check.due("left out", x.ride(1), 15);
        GallopDispatch far = Check.ride("sl30p1w1m0;dx0v9r9;dx30v9");
        Check.hold(far, "y:n<19&r=9?9;y:n=19&r=1?9;y:n=20?r");
        check.due("twenty", far.ride(3), 20);
        Check.hold(far, "y:n<20&r=9?9;y:n>19&r=1?9");
        check.due("whom twenty have not, nobody waits for", far.ride(3), 1);
        GallopDispatch late = Check.ride("sl10p5m0;dx10;dx0");
        Check.hold(late, "y:d=0?9");
        check.due("the first by number as the last", late.ride(3), 2);
    }

    private static void stands(Check check) {
        GallopDispatch x = road();
        check.due("beside the first is no good", x.stand(1, 0), 2);
        check.due("how many", x.stand(1, 1), 1);
        check.due("the least of several", x.stand(0, 0), 0);
        check.due("of the last", x.stand(3, 0), 2);
        check.due("what 2", x.stand(0, 2), -1);
        check.due("what -1", x.stand(0, -1), -1);
        check.due("no such man", x.stand(4, 0), -1);
        check.due("no such man", x.stand(-1, 1), -1);
        check.due("he stands where he stood", x.man(1, 0), 3);
        GallopDispatch near = Check.ride("sl10p1w20m0;dx0v3r0");
        check.due("five around", near.stand(0, 0), 2);
        check.due("how many", near.stand(0, 1), 5);
        Check.hold(near, "y:n=10&d=0?9");
        check.due("the end of the road", near.stand(0, 0), 10);
        Check.hold(near, "y:0");
        check.due("no place is better", near.stand(0, 0), 0);
        check.due("how many", near.stand(0, 1), 0);
    }

    private static void gaits(Check check) {
        GallopDispatch x = road();
        check.due("of the second", x.gait(1, 0), 1);
        check.due("how many", x.gait(1, 1), 1);
        check.due("of the drowned", x.gait(2, 0), 1);
        check.due("how many", x.gait(2, 1), 0);
        check.due("what 2", x.gait(0, 2), -1);
        check.due("what -1", x.gait(0, -1), -1);
        check.due("no such man", x.gait(4, 0), -1);
        check.due("no such man", x.gait(-1, 0), -1);
        Check.hold(x, "y:p=3|p=4?9");
        check.due("by the pace itself", x.gait(0, 0), 3);
        check.due("how many", x.gait(0, 1), 3);
        check.due("the pace is as it was", x.rule(1), 2);
        Check.hold(x, "y:p=5?9");
        check.due("the fastest", x.gait(0, 0), 5);
        check.due("how many", x.gait(0, 1), 3);
    }

    private static void puts(Check check) {
        GallopDispatch x = road();
        check.due("the second to 2", x.put(0), 102);
        check.due("how many", x.put(1), 3);
        check.due("put(2)", x.put(2), -1);
        check.due("put(-1)", x.put(-1), -1);
        Check.hold(x, "y:9");
        check.due("another place than now", x.put(0), 1);
        GallopDispatch y = Check.ride("sl10p5m0;dx5;dx5");
        Check.hold(y, "y:d=0?9");
        check.due("the first to 0", y.put(0), 0);
        Check.hold(y, "y:d=0&r+n>5?9");
        check.due("the first to 10", y.put(0), 10);
        check.due("how many", y.put(1), 2);
        check.due("how many", x.put(1), 1);
        x.law(0);
        x.move(1, 2);
        x.fill(0);
        // Now 0, 2, 6 and 8 have one each, but room is for three: any place keeps three.
        check.due("the least", x.put(0), 1);
        check.due("how many", x.put(1), 3);
    }

    private static void voices(Check check) {
        GallopDispatch x = Check.ride("sl6p1w20m1;dx1v9;dx3v9;dx5v9");
        Check.hold(x, "y:d=0?v");
        check.due("above a slip", x.least(0), 3);
        check.due("no such man", x.least(3), -1);
        check.due("no such man", x.least(-1), -1);
        x.voice(2, 1);
        check.due("by a slip of another", x.least(0), 0);
        x.rain(0);
        check.due("without mud", x.least(0), 1);
        Check.hold(x, "y:d=0&v<9?v");
        check.due("with the least", x.least(1), 1);
        Check.hold(x, "y:0");
        check.due("with none", x.least(1), -1);
        Check.hold(x, "y:d=0&v=9?9");
        check.due("with nine", x.least(1), 9);
        check.due("the voice is as it was", x.man(1, 1), 9);
    }
}

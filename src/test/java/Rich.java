/** Objects in which there is something of everything, so that whatever is changed by mistake is seen. */
final class Rich {
    /** Three MEN, three FORDS (one of no DEPTH), LENGTH 12. */
    static final String RIDE = "sl12p2w6m1c3;dx2v6e2r1;dx7v5e4r6;dx11v7e0r3;fx4d2;fx8d1;fx9d0";

    private Rich() {
    }

    /** Each STATUS but the last one is above 0, an IMAGE is kept, two LAWS of which one holds, a LAW on the TAPE. */
    static GallopDispatch made() {
        GallopDispatch x = Check.ride(RIDE);
        Check.tell(x, "y:v-d", 1);
        Check.hold(x, "y:d<4?v-d;y:r>5?2");
        x.storm(4);
        x.move(3, 0);
        x.move(0, 13);
        x.move(0, 2);
        x.feedHorse(false);
        x.voice(0, 9);
        x.days(5);
        x.move(1, 9);
        x.voice(2, 4);
        x.deed(0);
        x.fill(0);
        x.rain(3);
        x.image();
        x.days(2);
        x.move(0, 4);
        x.feedHorse(true);
        x.seen(0, 1, false);
        x.seen(2, 2, false);
        Check.feed(x, "y:[v+1]*2");
        return x;
    }

    /** The same with no COIN, or a few: all others were spent on moving to and fro. */
    static GallopDispatch withCoins(int coins) {
        GallopDispatch x = made();
        while (x.rule(4) > coins) {
            int at = (int) Check.man(x, 2, 0);
            int steps = Math.min(6, x.rule(4) - coins);
            x.move(2, at >= steps ? at - steps : at + steps);
        }
        return x;
    }

    /** The same on a late DAY. */
    static GallopDispatch onDay(int day) {
        GallopDispatch x = made();
        while (x.count(5) < day) {
            x.days(Math.min(60, day - x.count(5)));
        }
        return x;
    }
}

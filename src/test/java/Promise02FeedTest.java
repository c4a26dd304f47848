import java.util.function.Supplier;

/** Promise 2: feed. */
public final class Promise02FeedTest {
    private static final int BLANKS = 0x20202020;

    public static void main(String[] args) {
        Check check = new Check("Promise02FeedTest");
        highestFirst(check);
        everyPlaceCounts(check);
        zerosAreLeftOut(check);
        allOtherBytesCount(check);
        twoHundredAndForty(check);
        twoHundredAndFortyOfAnyBytes(check);
        refusedWhole(check);
        roomAgain(check);
        check.end();
    }

    /** "of each number the highest first" */
    private static void highestFirst(Check check) {
        GallopDispatch x = new GallopDispatch();
        check.due("twenty bytes", x.feed(0x64783776, 0x38653972, 0x363B6478, 0x31327631, 0x65317231), 20);
        check.due("two men", x.text(0), 2);
        int[] due = {7, 8, 9, 6, 0, 12, 1, 1, 1, 0};
        for (int k = 0; k < 10; k++) {
            check.due("man(" + k / 5 + ", " + k % 5 + ")", x.man(k / 5, k % 5), due[k]);
        }
    }

    /** Twenty bytes: each of the twenty places is one, and in its order. */
    private static void everyPlaceCounts(Check check) {
        for (int place = 0; place < 20; place++) {
            GallopDispatch x = new GallopDispatch();
            int[] n = {BLANKS, BLANKS, BLANKS, BLANKS, BLANKS};
            int shift = 24 - 8 * (place % 4);
            n[place / 4] = n[place / 4] & ~(255 << shift) | 'q' << shift;
            check.due("twenty bytes", x.feed(n[0], n[1], n[2], n[3], n[4]), 20);
            check.due("a q at " + place, x.fault(0), place);
        }
    }

    /** "bytes of 0 are left out" */
    private static void zerosAreLeftOut(Check check) {
        GallopDispatch x = new GallopDispatch();
        check.due("nothing but zeros", x.feed(0, 0, 0, 0, 0), 0);
        for (int place = 0; place < 20; place++) {
            int[] n = new int[5];
            n[place / 4] = ' ' << 24 - 8 * (place % 4);
            check.due("one byte at " + place, x.feed(n[0], n[1], n[2], n[3], n[4]), place + 1);
        }
        check.due("nothing but zeros again", x.feed(0, 0, 0, 0, 0), 20);
        GallopDispatch y = new GallopDispatch();
        check.due("zeros between", y.feed(0x64007800, 0x00370000, 0, 0x3B, 0x00000064), 5);
        check.due("dx7;d", y.text(0), 2);
        check.due("at 7", y.man(0, 0), 7);
    }

    /** Bytes are 1 to 255, whatever the sign of the number. */
    private static void allOtherBytesCount(Check check) {
        int[] numbers = {0x01000000, 0x7F000000, 0x80000000, 0xFF000000, 0x000000FF, 0x00008000, 0x00010000};
        for (int number : numbers) {
            GallopDispatch x = new GallopDispatch();
            check.due("one byte of " + number, x.feed(number, 0, 0, 0, 0), 1);
            check.due("it can't be a ride", x.fault(0), 0);
            check.due("nor a law", x.fault(1), 0);
        }
        GallopDispatch y = new GallopDispatch();
        check.due("four bytes a number", y.feed(-1, Integer.MIN_VALUE, Integer.MAX_VALUE, 0x01010101, 0x10000001), 15);
    }

    private static GallopDispatch filled(int bytes) {
        GallopDispatch x = new GallopDispatch();
        Check.feed(x, " ".repeat(bytes));
        return x;
    }

    /** "NONE: more than 240": 239, 240 and 241. */
    private static void twoHundredAndForty(Check check) {
        check.due("219 and 20", filled(219).feed(BLANKS, BLANKS, BLANKS, BLANKS, BLANKS), 239);
        check.due("220 and 20", filled(220).feed(BLANKS, BLANKS, BLANKS, BLANKS, BLANKS), 240);
        check.due("221 and 20", filled(221).feed(BLANKS, BLANKS, BLANKS, BLANKS, BLANKS), -1);
        check.due("238 and 1", filled(238).feed(0, 0, 0, 0, 32), 239);
        check.due("239 and 1", filled(239).feed(0, 0, 0, 0, 32), 240);
        check.due("240 and 1", filled(240).feed(0, 0, 0, 0, 32), -1);
        check.due("239 and 2", filled(239).feed(32, 0, 0, 0, 32), -1);
        check.due("240 and none", filled(240).feed(0, 0, 0, 0, 0), 240);
        for (int k = 0; k < 5; k++) {
            int[] n = new int[5];
            n[k] = 0x20000020;
            check.due("238 and 2", filled(238).feed(n[0], n[1], n[2], n[3], n[4]), 240);
            check.due("239 and 2", filled(239).feed(n[0], n[1], n[2], n[3], n[4]), -1);
        }
    }

    /** Whatever the bytes are: as many as are not 0 need room, no more and no fewer. */
    private static void twoHundredAndFortyOfAnyBytes(Check check) {
        int[] bytes = {0, 1, 2, 127, 128, 254, 255};
        for (int first : bytes) {
            for (int second : bytes) {
                for (int turn = 0; turn < 5; turn++) {
                    int number = first << 24 | second << 16 | first << 8 | second;
                    int size = (first != 0 ? 2 : 0) + (second != 0 ? 2 : 0);
                    int[] n = new int[5];
                    n[turn] = number;
                    check.due("just room", filled(240 - size).feed(n[0], n[1], n[2], n[3], n[4]), 240);
                    if (size > 0) {
                        check.due("one too many", filled(241 - size).feed(n[0], n[1], n[2], n[3], n[4]), -1);
                    }
                }
            }
        }
        for (int place = 0; place < 4; place++) {
            for (int value = 1; value < 256; value++) {
                int number = value << 8 * place;
                check.due("just room for " + value, filled(239).feed(0, 0, number, 0, 0), 240);
                check.due("no room for " + value, filled(240).feed(0, 0, number, 0, 0), -1);
            }
        }
    }

    /** What is refused is refused whole: no byte of it comes, though some would have room. */
    private static void refusedWhole(Check check) {
        Supplier<GallopDispatch> nearlyFull = () -> {
            GallopDispatch x = Rich.made();
            Check.feed(x, " ".repeat(221 - x.count(3)));
            return x;
        };
        Refusal.due(check, "feed of 20 on 221", nearlyFull,
            x -> x.feed(0x2B312B31, 0x2B312B31, 0x2B312B31, 0x2B312B31, 0x2B312B31), -1, Refusal.NO_STATUS);
        Supplier<GallopDispatch> full = () -> {
            GallopDispatch x = Rich.made();
            Check.feed(x, " ".repeat(240 - x.count(3)));
            return x;
        };
        Refusal.due(check, "feed of 1 on 240", full, x -> x.feed(0, 0, 0, 0, 'q'), -1, Refusal.NO_STATUS);
        GallopDispatch x = nearlyFull.get();
        x.feed(BLANKS, BLANKS, BLANKS, BLANKS, BLANKS);
        check.due("bytes as they were", x.count(3), 221);
        check.due("a law as it was", x.text(1), 2);
    }

    /** A TAPE that was emptied has room for 240 again. */
    private static void roomAgain(Check check) {
        GallopDispatch x = filled(240);
        x.end(220);
        check.due("twenty again", x.feed(BLANKS, BLANKS, BLANKS, BLANKS, BLANKS), 240);
        x.end(0);
        for (int k = 1; k <= 12; k++) {
            check.due("feed " + k, x.feed(BLANKS, BLANKS, BLANKS, BLANKS, k == 12 ? 0x20202064 : BLANKS), 20 * k);
        }
        check.due("a man behind 239 blanks", x.text(0), 1);
        check.due("empty by that", x.feed(32, 0, 0, 0, 0), 1);
    }
}

/** Promises 2 and 3: feed and end. */
public final class TapeTest {
    public static void main(String[] args) {
        Check check = new Check("TapeTest");
        ordinary(check);
        limit(check);
        limitByEach(check);
        cutting(check);
        check.end();
    }

    private static void ordinary(Check check) {
        GallopDispatch x = new GallopDispatch();
        check.due("no bytes", x.feed(0, 0, 0, 0, 0), 0);
        // 'd' and 'x' and '7' with zeros between them, highest first: "dx7".
        check.due("zeros are left out", x.feed(0x64000000, 0x00780000, 0, 0x00003700, 0), 3);
        check.due("the lowest byte counts", x.feed(0, 0, 0, 0, 0x0000003B), 4);
        check.due("a byte above 127", x.feed(0xFF000000, 0, 0, 0, 0), 5);
        check.due("it is the fault", x.fault(0), 4);
        check.due("count of bytes", x.count(3), 5);
        check.due("cut", x.end(3), true);
        check.due("one man told", x.text(0), 1);
        check.due("he stands at 7", x.man(0, 0), 7);
        check.due("the tape is empty then", x.count(3), 0);
    }

    private static void limit(Check check) {
        GallopDispatch x = new GallopDispatch();
        int blanks = 0x20202020;
        for (int k = 1; k <= 11; k++) {
            check.due("feed", x.feed(blanks, blanks, blanks, blanks, blanks), 20 * k);
        }
        check.due("nineteen more", x.feed(blanks, blanks, blanks, blanks, 0x20202000), 239);
        check.due("two too many", x.feed(0x20200000, 0, 0, 0, 0), -1);
        check.due("nothing of it was taken", x.count(3), 239);
        check.due("the last one", x.feed(0, 0, 0x00640000, 0, 0), 240);
        check.due("one too many", x.feed(0, 0, 0, 0, 0x64), -1);
        check.due("none more is none too many", x.feed(0, 0, 0, 0, 0), 240);
        for (int k = 0; k < 20; k++) {
            int[] n = new int[5];
            n[k / 4] = 1 << 8 * (k % 4);
            check.due("one too many at " + k, x.feed(n[0], n[1], n[2], n[3], n[4]), -1);
        }
        check.due("a man behind 239 blanks", x.fault(0), -1);
    }

    /** Wherever in the five numbers the bytes stand, all of them count. */
    private static void limitByEach(Check check) {
        for (int k = 0; k < 5; k++) {
            GallopDispatch x = new GallopDispatch();
            for (int j = 0; j < 11; j++) {
                x.feed(-1, -1, -1, -1, -1);
            }
            x.feed(-1, -1, -1, -1, 0x01010000);
            int[] n = {0, 0, 0, 0, 0};
            n[k] = 0x00010001;
            n[(k + 1) % 5] = 0x80000000;
            check.due("238 and three", x.feed(n[0], n[1], n[2], n[3], n[4]), -1);
            n[(k + 1) % 5] = 0;
            check.due("238 and two", x.feed(n[0], n[1], n[2], n[3], n[4]), 240);
        }
    }

    private static void cutting(Check check) {
        GallopDispatch x = new GallopDispatch();
        check.due("end(0) of an empty tape", x.end(0), true);
        check.due("end(1) of an empty tape", x.end(1), false);
        Check.feed(x, "dx12");
        check.due("end(-1)", x.end(-1), false);
        check.due("end(5)", x.end(5), false);
        check.due("bytes are all there", x.count(3), 4);
        check.due("end(4)", x.end(4), true);
        check.due("bytes are all there still", x.count(3), 4);
        check.due("end(3)", x.end(3), true);
        check.due("bytes then", x.count(3), 3);
        Check.feed(x, "3");
        check.due("text", x.text(0), 1);
        check.due("the new byte came behind the cut", x.man(0, 0), 13);
    }
}

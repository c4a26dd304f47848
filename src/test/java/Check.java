/** What the tests share: feeding a text, comparing answers, counting those that are wrong. */
final class Check {
    /** Stands for an exception among answers; no call answers so much. */
    static final long THROWN = 1L << 40;

    private final String name;
    private int wrong;
    private int asked;

    Check(String name) {
        this.name = name;
    }

    void due(String what, long got, long want) {
        asked++;
        if (got != want) {
            wrong++;
            System.out.println(name + ": " + what + " answered " + got + ", due is " + want);
        }
    }

    void due(String what, boolean got, boolean want) {
        due(what, got ? 1 : 0, want ? 1 : 0);
    }

    /** Wants man(..) to throw NoSuchElementException. */
    void dueNoSuchElement(String what, GallopDispatch x, int man, int of) {
        boolean thrown = false;
        try {
            x.man(man, of);
        } catch (java.util.NoSuchElementException e) {
            thrown = e.getClass() == java.util.NoSuchElementException.class;
        }
        due(what + " throws", thrown, true);
    }

    /** What man(..) answers, THROWN if it throws NoSuchElementException itself. */
    static long man(GallopDispatch x, int man, int what) {
        try {
            return x.man(man, what);
        } catch (java.util.NoSuchElementException e) {
            return e.getClass() == java.util.NoSuchElementException.class ? THROWN : -THROWN;
        }
    }

    /** Ends the test's program, with 1 if an answer was wrong. */
    void end() {
        System.out.println(name + ": " + asked + " answers, " + wrong + " wrong");
        if (wrong != 0) {
            System.exit(1);
        }
    }

    /** Feeds a text behind what the tape has; answers what the last feed answered. */
    static int feed(GallopDispatch x, String text) {
        int size = x.count(3);
        for (int from = 0; from < text.length(); from += 20) {
            int[] numbers = new int[5];
            for (int k = 0; k < 20 && from + k < text.length(); k++) {
                numbers[k / 4] |= (text.charAt(from + k) & 255) << (24 - 8 * (k % 4));
            }
            size = x.feed(numbers[0], numbers[1], numbers[2], numbers[3], numbers[4]);
        }
        return size;
    }

    /** The fault of a text alone on the tape, which is empty then. */
    static int faultOf(GallopDispatch x, String text, int sort) {
        x.end(0);
        feed(x, text);
        int fault = x.fault(sort);
        x.end(0);
        return fault;
    }

    static int tell(GallopDispatch x, String text, int sort) {
        x.end(0);
        feed(x, text);
        return x.text(sort);
    }

    static GallopDispatch ride(String text) {
        GallopDispatch x = new GallopDispatch();
        if (tell(x, text, 0) < 1) {
            throw new IllegalStateException("the test's own ride has a fault: " + text);
        }
        return x;
    }

    /** A law is told and holds. */
    static void hold(GallopDispatch x, String text) {
        int law = tell(x, text, 1);
        if (law < 0 || !x.law(law)) {
            throw new IllegalStateException("the test's own law has a fault: " + text);
        }
    }
}

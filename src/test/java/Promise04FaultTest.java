/** Promise 4: fault, and the Terms' sentences on where a TEXT goes wrong. */
public final class Promise04FaultTest {
    /** A letter of a CLAUSE, what stands ahead of and behind it, its least, its greatest. */
    private static final String[][] ITEMS = {
        {"s", "l", ";dx5", "5", "30"},
        {"s", "p", ";d", "1", "5"},
        {"s", "w", ";d", "1", "20"},
        {"s", "m", ";d", "0", "9"},
        {"s", "c", ";d", "0", "99"},
        {"d", "x", ";sl30", "0", "30"},
        {"d", "v", "", "0", "9"},
        {"d", "e", "", "0", "9"},
        {"d", "r", "", "0", "9"},
        {"f", "x", ";d;sl30", "0", "30"},
        {"f", "d", ";d", "0", "9"},
    };
    private static final String[] LETTERS = {"lpwmc", "xver", "xd"};
    private static final String CLAUSES = "sdf";

    private static Check check;
    private static GallopDispatch tape = new GallopDispatch();
    private static int texts;

    public static void main(String[] args) {
        check = new Check("Promise04FaultTest");
        sorts();
        numbersOfItems();
        digitsOfItems();
        lettersOfItems();
        howManyClauses();
        endsTooEarly();
        beyondTheLength();
        twoFordsInOnePlace();
        blanks();
        otherSigns();
        Promise04Laws.test(check);
        longest();
        changesNothing();
        check.end();
    }

    /** A fresh object now and then: none is used for more than 512 calls. */
    static void due(String text, int sort, int fault) {
        texts++;
        if (texts % 20 == 0) {
            tape = new GallopDispatch();
        }
        check.due("fault(" + sort + ") of '" + text + "'", Check.faultOf(tape, text, sort), fault);
    }

    private static void ride(String text, int fault) {
        due(text, 0, fault);
    }

    /** "-2: no such sort" */
    private static void sorts() {
        GallopDispatch x = new GallopDispatch();
        Check.feed(x, "d");
        check.due("fault(-1)", x.fault(-1), -2);
        check.due("fault(0)", x.fault(0), -1);
        check.due("fault(1)", x.fault(1), 0);
        check.due("fault(2)", x.fault(2), -2);
        for (int sort : Refusal.wildNumbers()) {
            check.due("fault(" + sort + ")", x.fault(sort), -2);
            check.due("fault(" + sort + ") of an empty tape", new GallopDispatch().fault(sort), -2);
        }
    }

    /** "a number out of bounds is wrong at its last digit": each number of one and of two digits, of each letter. */
    private static void numbersOfItems() {
        for (String[] item : ITEMS) {
            for (int n = 0; n <= 99; n++) {
                boolean within = n >= Integer.parseInt(item[3]) && n <= Integer.parseInt(item[4]);
                ride(item[0] + item[1] + String.format("%02d", n) + item[2], within ? -1 : 3);
                if (n <= 9) {
                    ride(item[0] + item[1] + n + item[2], within ? -1 : 2);
                    // Though a further digit might follow, there is none.
                    ride(item[0] + item[1] + n + " 0" + item[2], within ? 4 : 2);
                }
            }
        }
    }

    /** "a third digit itself, whatever stands ahead of it" */
    private static void digitsOfItems() {
        String[] threes = {"000", "001", "005", "050", "099", "100", "300", "310", "999", "0000", "99999"};
        for (String[] item : ITEMS) {
            for (String digits : threes) {
                ride(item[0] + item[1] + digits + item[2], 4);
                ride("  " + item[0] + " " + item[1] + "  " + digits + item[2], 9);
            }
            ride(item[0] + item[1] + item[2] + " ", item[2].isEmpty() ? 3 : 2);
        }
    }

    /** "a letter, each once at most in a CLAUSE"; "a letter that was there" is wrong at it. */
    private static void lettersOfItems() {
        for (int clause = 0; clause < 3; clause++) {
            for (char letter = 1; letter < 256; letter++) {
                if (letter == ' ' || letter == ';') {
                    continue;
                }
                boolean own = LETTERS[clause].indexOf(letter) >= 0;
                ride(CLAUSES.substring(clause, clause + 1) + letter, own ? 2 : 1);
            }
            for (char first : LETTERS[clause].toCharArray()) {
                for (char second : LETTERS[clause].toCharArray()) {
                    String text = "" + CLAUSES.charAt(clause) + first + "5" + second + "5";
                    boolean good = clause == 1 && first != second;
                    ride(text, first == second ? 3 : good ? -1 : 5);
                    // A letter comes again behind others, too.
                    ride(text + first + "5", first == second ? 3 : 5);
                }
            }
        }
        ride("sl5p5w5m5c5;dx5v5e5r5;fx5d5", -1);
        ride("sc5m5w5p5l5;dr5e5v5x5;fd5x5", -1);
        ride("sl5p5w5m5c5l5;d", 11);
        ride("dx5v5e5r5r5", 9);
        ride("d;fd5x5x5", 7);
        // What was in one CLAUSE may be in the next.
        ride("dx5;dx5;fx5;fx6", -1);
        ride("dx5;dv5x5v5", 9);
    }

    /** "s (one at most), d (1 .. 6), f (none to 5), in any order"; one too many is wrong at it. */
    private static void howManyClauses() {
        ride("s", 1);
        ride("f", 1);
        ride("s;f", 3);
        ride("d", -1);
        ride("d;d;d;d;d", -1);
        ride("d;d;d;d;d;d", -1);
        ride("d;d;d;d;d;d;d", 12);
        ride("d;d;d;d;d;d;d;d", 12);
        ride("d;d;d;d;d;d;f;d", 14);
        ride("d;d;d;d;d;d;s;f", -1);
        ride("fx0;fx1;fx2;fx3;d", -1);
        ride("fx0;fx1;fx2;fx3;fx4;d", -1);
        ride("fx0;fx1;fx2;fx3;fx4;fx5;d", 20);
        ride("fx0;fx1;d;fx2;fx3;fx4;f", 22);
        ride("fx0;fx1;fx2;fx3;fx4;d;s;f", 24);
        ride("s;s;d", 2);
        ride("d;s;s", 4);
        ride("s;d;f;s", 6);
        ride("s;d;f", -1);
        ride("s;f;d", -1);
        ride("d;s;f", -1);
        ride("d;f;s", -1);
        ride("f;s;d", -1);
        ride("f;d;s", -1);
        ride("f;d;d;s;d;fx3;d;fx2;d;fx1;d;fx4", -1);
        // One too many is wrong though what stands ahead of it would be wrong at the end.
        ride("dx30;s;s", 7);
        ride("f;f;s;s", 6);
    }

    /** "the length, if it ends too early, without a MAN": blanks at the end are of the length. */
    private static void endsTooEarly() {
        ride("", 0);
        ride(" ", 1);
        ride("   ", 3);
        ride("s", 1);
        ride("s ", 2);
        ride("sl", 2);
        ride("sl  ", 4);
        ride("sl5", 3);
        ride("sl5;", 4);
        ride("sl5; ", 5);
        ride("d;", 2);
        ride("d; ", 3);
        ride("dx", 2);
        ride("dx5v", 4);
        ride("dx5v ", 5);
        ride("fx5;s", 5);
        ride("s;fx5d9;", 8);
        ride(" ".repeat(240), 240);
        ride("d" + " ".repeat(239), -1);
        ride(" ".repeat(239) + "d", -1);
        ride(" ".repeat(239) + "s", 240);
        ride(" ".repeat(239) + "q", 239);
    }

    /** "with a MAN or a FORD beyond the LENGTH": at it is not beyond it; without l it is 20. */
    private static void beyondTheLength() {
        for (int length = 5; length <= 30; length++) {
            for (int more = -1; more <= 1; more++) {
                int at = length + more;
                if (at > 30) {
                    continue;
                }
                String man = "sl" + length + ";dx" + at;
                ride(man, more > 0 ? man.length() : -1);
                String first = "dx" + at + ";sl" + length;
                ride(first, more > 0 ? first.length() : -1);
                String ford = "sl" + length + ";d;fx" + at;
                ride(ford, more > 0 ? ford.length() : -1);
            }
        }
        ride("dx19;fx19", -1);
        ride("dx20;fx20", -1);
        ride("dx21", 4);
        ride("d;fx21", 6);
        ride("d;dx5;dx21;d", 12);
        ride("d;d;d;d;d;dx21", 14);
        ride("d;fx1;fx2;fx3;fx4;fx21", 22);
        // A FORD stands at 10 and a MAN at 5 without x: both count.
        ride("sl9;d;f", 7);
        ride("sl10;d;f", -1);
        ride("sl11;d;f", -1);
        ride("sl5;d", -1);
        ride("dx21 ", 5);
        ride("dx21;", 5);
        ride("dx21;q", 5);
        // A FORD of no DEPTH is a FORD.
        ride("d;fx21d0", 8);
    }

    /** "two FORDS in one place" */
    private static void twoFordsInOnePlace() {
        ride("d;fx9;fx10", -1);
        ride("d;fx10;fx10", 11);
        ride("d;fx11;fx10", -1);
        ride("d;f;f", 5);
        ride("d;f;fx9", -1);
        ride("d;f;fx10", 8);
        ride("d;fx10;f", 8);
        ride("d;fd1;fd2", 9);
        ride("d;fx0;fx0", 9);
        ride("sl30;d;fx30;fx30", 16);
        ride("d;fx5d0;fx5d0", 13);
        // Two MEN may stand in one place, and a MAN at a FORD.
        ride("dx5;dx5;fx5", -1);
        int[][] alike = {{0, 1}, {0, 4}, {1, 3}, {3, 4}, {2, 4}};
        for (int[] two : alike) {
            StringBuilder text = new StringBuilder("d");
            for (int ford = 0; ford < 5; ford++) {
                text.append(";fx").append(ford == two[1] ? two[0] : ford);
            }
            ride(text.toString(), text.length());
        }
        ride("d;fx4;fx3;fx2;fx1;fx0", -1);
    }

    /** "Blanks (32) may stand between all signs of both, not within numbers." */
    private static void blanks() {
        ride(" s l 10 p 2 w 4 m 1 c 9 ; d x 2 v 3 e 4 r 5 ; f x 4 d 2 ", -1);
        ride("   s   ;   d   ", -1);
        ride("dx1 2", 4);
        ride("dx1  2", 5);
        ride("dx 12", -1);
        ride("dx12 ", -1);
        ride("sl1 0;d", 2);
        for (char sign = 1; sign < 32; sign++) {
            ride("d" + sign, 1);
            ride(sign + "d", 0);
            ride("dx" + sign + "5", 2);
        }
        ride("d" + (char) 160, 1);
        ride("d" + (char) 33, 1);
    }

    private static void otherSigns() {
        ride("D", 0);
        ride("dX5", 1);
        ride("y:v", 0);
        ride(";", 0);
        ride(";d", 0);
        ride("d;;d", 2);
        ride("d;;", 2);
        ride("dd", 1);
        ride("d5", 1);
        ride("5", 0);
        ride("d,d", 1);
        ride("dx-1", 2);
        ride("dx+1", 2);
        ride("dx5;dv5q", 7);
        ride("dx;", 2);
        ride("dxv5", 2);
        ride("sl;d", 2);
        ride("dx5 5", 4);
        ride("dx5:", 3);
        ride("dx/", 2);
        ride("dx:", 2);
    }

    /** Texts as long as the TAPE. */
    private static void longest() {
        String ride = "sl30p1w20m9c99;dx30v9e9r9;dx30v9e9r9;dx30v9e9r9;dx30v9e9r9;dx30v9e9r9;dx30v9e9r9;"
            + "fx26d9;fx27d9;fx28d9;fx29d9;fx30d9";
        String full = ride + " ".repeat(240 - ride.length());
        ride(full, -1);
        ride(full.substring(0, 239) + "q", 239);
        ride(full.substring(0, 239) + ";", 240);
        String spread = " ".repeat(240 - ride.length()) + ride;
        ride(spread, -1);
        ride(spread.substring(0, 239) + "x", 239);
        due("y:v" + "+1-1".repeat(59) + " ", 1, -1);
        due("y:v" + "+1-1".repeat(59) + "+", 1, 240);
        due("y:v" + "+1-1".repeat(59) + "=", 1, 240);
        due("y:v" + "+1-1".repeat(59) + ")", 1, 239);
        due("y:1;".repeat(59) + "y:12", 1, -1);
        due("y:1;".repeat(60), 1, 240);
    }

    /** A FAULT is looked for apart: what the TAPE has, and all else, stays. */
    private static void changesNothing() {
        Refusal.onlyAsks(check, "fault(0)", Rich::made, x -> x.fault(0));
        Refusal.onlyAsks(check, "fault(1)", Rich::made, x -> x.fault(1));
        Refusal.due(check, "fault(2)", Rich::made, x -> x.fault(2), -2, Refusal.NO_STATUS);
        Refusal.due(check, "fault(-1)", Rich::made, x -> x.fault(-1), -2, Refusal.NO_STATUS);
        // A good RIDE that was only looked at is not the RIDE.
        Refusal.onlyAsks(check, "fault(0) of a ride", () -> {
            GallopDispatch x = Rich.made();
            x.end(0);
            Check.feed(x, "sl30;dx30v1;d;d;d;fx7");
            return x;
        }, x -> x.fault(0));
    }
}

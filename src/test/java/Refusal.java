import java.util.ArrayList;
import java.util.List;
import java.util.function.Supplier;
import java.util.function.ToLongFunction;

/**
 * What is refused answers as told and changes nothing but STATUS. Two objects are made alike, one of them is
 * asked, and both are looked at from each side; each side has objects of its own, so that looking, which
 * changes them at times, stays within their 512 calls.
 */
final class Refusal {
    static final int NO_STATUS = -1;
    private static final int SIDES = 9;
    private static final int[] NUMBERS = {
        Integer.MIN_VALUE, Integer.MIN_VALUE + 1, -1000000, -32, -2, 100000, Integer.MAX_VALUE - 1, Integer.MAX_VALUE,
    };

    private Refusal() {
    }

    /** Numbers that are out of all bounds there are. */
    static int[] wildNumbers() {
        return NUMBERS.clone();
    }

    /** The call is refused with this answer; it is counted in this STATUS, or in none. */
    static void due(Check check, String what, Supplier<GallopDispatch> made, ToLongFunction<GallopDispatch> call,
            long answer, int status) {
        for (int side = 0; side < SIDES; side++) {
            GallopDispatch untouched = made.get();
            GallopDispatch asked = made.get();
            check.due(what + " is refused", call.applyAsLong(asked), answer);
            for (int k = 0; k < 5; k++) {
                int more = k == status ? 1 : 0;
                check.due(what + " refused: status(" + k + ")", asked.status(k), untouched.status(k) + more);
            }
            alike(check, what + " refused", side, untouched, asked);
        }
    }

    /** The call only asks: it is answered the same way twice, and nothing is changed by it, STATUS neither. */
    static void onlyAsks(Check check, String what, Supplier<GallopDispatch> made,
            ToLongFunction<GallopDispatch> call) {
        for (int side = 0; side < SIDES; side++) {
            GallopDispatch untouched = made.get();
            GallopDispatch asked = made.get();
            long first = call.applyAsLong(asked);
            check.due(what + " asked again", call.applyAsLong(asked), first);
            for (int k = 0; k < 5; k++) {
                check.due(what + " asked: status(" + k + ")", asked.status(k), untouched.status(k));
            }
            alike(check, what + " asked", side, untouched, asked);
        }
    }

    private static void alike(Check check, String what, int side, GallopDispatch one, GallopDispatch other) {
        List<Long> want = look(one, side);
        List<Long> got = look(other, side);
        check.due(what + ": answers of side " + side, got.size(), want.size());
        for (int k = 0; k < want.size() && k < got.size(); k++) {
            check.due(what + ": answer " + k + " of side " + side, got.get(k), want.get(k));
        }
    }

    private static List<Long> look(GallopDispatch x, int side) {
        List<Long> seen = new ArrayList<>();
        switch (side) {
            case 0: asItIs(x, seen); break;
            case 1: log(x, seen); break;
            case 2: rides(x, seen); break;
            case 3: undone(x, seen); break;
            case 4: back(x, seen); break;
            case 5: tape(x, seen); break;
            case 6: laws(x, seen); break;
            case 7: cutTape(x, seen); break;
            default: chance(x, seen); break;
        }
        return seen;
    }

    private static void asItIs(GallopDispatch x, List<Long> seen) {
        for (int what = 0; what <= 10; what++) {
            seen.add((long) x.count(what));
        }
        for (int what = 0; what <= 4; what++) {
            seen.add((long) x.rule(what));
        }
        for (int man = 0; man < 6; man++) {
            for (int what = 0; what <= 4; what++) {
                seen.add(Check.man(x, man, what));
            }
        }
        for (int ford = 0; ford < 5; ford++) {
            seen.add((long) x.ford(ford, 0));
            seen.add((long) x.ford(ford, 1));
        }
    }

    private static void log(GallopDispatch x, List<Long> seen) {
        for (int i = 0; i <= 60; i++) {
            for (int what = 0; what <= 2; what++) {
                seen.add((long) x.log(i, what));
            }
        }
    }

    private static void rides(GallopDispatch x, List<Long> seen) {
        for (int i = -1; i <= 20; i++) {
            seen.add((long) x.words(i));
        }
        for (int what = 0; what <= 5; what++) {
            seen.add((long) x.ride(what));
        }
        for (int step = 0; step <= 30; step++) {
            seen.add((long) x.heard(1, step));
            seen.add((long) x.loudest(step));
        }
        for (int g = 1; g <= 9; g++) {
            for (int i = -1; i <= 6; i++) {
                seen.add((long) x.who(g, i));
            }
            seen.add((long) x.best(g));
        }
    }

    private static void undone(GallopDispatch x, List<Long> seen) {
        for (int k = 0; k <= 40; k++) {
            seen.add((long) x.undo());
            seen.add((long) x.rule(1));
            seen.add((long) x.rule(3));
            seen.add((long) x.rule(4));
            seen.add((long) x.count(5));
            seen.add((long) x.count(6));
            seen.add((long) x.log(0, 2));
            seen.add(Check.man(x, k % 3, k / 3 % 3));
        }
        asItIs(x, seen);
    }

    private static void back(GallopDispatch x, List<Long> seen) {
        seen.add((long) x.back());
        asItIs(x, seen);
        log(x, seen);
    }

    /** The bytes themselves: told as a LAW, and what is left of them told as a RIDE. */
    private static void tape(GallopDispatch x, List<Long> seen) {
        seen.add((long) x.fault(0));
        seen.add((long) x.fault(1));
        seen.add((long) x.text(1));
        x.law(x.count(2) - 1);
        for (int step = 0; step <= 12; step++) {
            seen.add((long) x.heard(0, step));
        }
        seen.add((long) x.text(0));
        asItIs(x, seen);
    }

    /** The latest hundred bytes, by how the TAPE cut ahead of each goes wrong. */
    private static void cutTape(GallopDispatch x, List<Long> seen) {
        int all = x.count(3);
        for (int n = all; n >= 0 && n > all - 100; n--) {
            seen.add(x.end(n) ? 1L : 0L);
            seen.add((long) x.fault(0));
            seen.add((long) x.fault(1));
        }
    }

    private static void laws(GallopDispatch x, List<Long> seen) {
        for (int law = -1; law < 4; law++) {
            seen.add(x.law(law) ? 1L : 0L);
            for (int step = 0; step <= 30; step++) {
                seen.add((long) x.heard(0, step));
                seen.add((long) x.heard(2, step));
            }
        }
    }

    private static void chance(GallopDispatch x, List<Long> seen) {
        seen.add((long) x.years(5, 77L));
        asItIs(x, seen);
        seen.add((long) x.image());
        seen.add(x.storm(4) ? 1L : 0L);
        for (int k = 0; k < 11; k++) {
            seen.add((long) x.seen(19, 0, false));
        }
    }
}

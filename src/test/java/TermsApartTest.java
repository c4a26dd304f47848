import java.util.ArrayList;
import java.util.List;
import java.util.function.Supplier;
import java.util.function.ToLongFunction;

/** Terms, ==== 3: "(Apart, from as it is now.)" What is asked answers the same whatever was asked before it. */
public final class TermsApartTest {
    private static final List<ToLongFunction<GallopDispatch>> QUESTIONS = new ArrayList<>();
    private static Check check;

    public static void main(String[] args) {
        check = new Check("TermsApartTest");
        collect();
        afterEachOther("rich", Rich::made);
        afterEachOther("at a gallop", () -> {
            GallopDispatch x = Check.ride("sl30p5w20m3;dx0v9r9;dx10v2r1;dx30v5;d;dx15v7;dx21;fx0;fx10d0;fx30");
            x.seen(0, 1, false);
            x.days(3);
            return x;
        });
        afterEachOther("one man in the mud", () -> {
            GallopDispatch x = Check.ride("sl9p2w3m9;dv2");
            Check.hold(x, "y:n-d");
            return x;
        });
        afterActs();
        check.end();
    }

    private static void collect() {
        QUESTIONS.add(x -> x.words(-1));
        QUESTIONS.add(x -> x.words(2));
        QUESTIONS.add(x -> x.best(3));
        QUESTIONS.add(x -> x.put(0));
        QUESTIONS.add(x -> x.put(1));
        QUESTIONS.add(x -> x.unfair(777));
        QUESTIONS.add(x -> x.fault(0));
        QUESTIONS.add(x -> x.fault(1));
        for (int k = 0; k < 3; k++) {
            int man = k;
            QUESTIONS.add(x -> x.heard(man, 5));
            QUESTIONS.add(x -> x.mentions(man));
            QUESTIONS.add(x -> x.stand(man, 0));
            QUESTIONS.add(x -> x.stand(man, 1));
            QUESTIONS.add(x -> x.gait(man, 0));
            QUESTIONS.add(x -> x.gait(man, 1));
            QUESTIONS.add(x -> x.least(man));
            QUESTIONS.add(x -> x.who(4, man - 1));
            QUESTIONS.add(x -> x.pension(man, 500, 0));
            QUESTIONS.add(x -> x.pension(man, 500, 1));
            QUESTIONS.add(x -> x.game(man, (man + 1) % 3, man, 4, 0));
            QUESTIONS.add(x -> x.game(man, (man + 1) % 3, man, 4, 1));
            QUESTIONS.add(x -> x.rests(man, (man + 2) % 3, -1));
            QUESTIONS.add(x -> x.rests(man, (man + 2) % 3, 0));
            QUESTIONS.add(x -> x.odds(man, 37));
            QUESTIONS.add(x -> x.loudest(3 * man));
            QUESTIONS.add(x -> x.span(man));
            QUESTIONS.add(x -> x.nearest(4 * man));
            QUESTIONS.add(x -> x.most(man));
            QUESTIONS.add(x -> x.ahead(man, 99));
        }
        for (int k = 0; k <= 5; k++) {
            int what = k;
            QUESTIONS.add(x -> x.ride(what));
        }
    }

    /** Asked first on a new object, and asked behind each other question. */
    private static void afterEachOther(String why, Supplier<GallopDispatch> made) {
        for (int second = 0; second < QUESTIONS.size(); second++) {
            long alone = QUESTIONS.get(second).applyAsLong(made.get());
            for (int first = 0; first < QUESTIONS.size(); first++) {
                GallopDispatch x = made.get();
                QUESTIONS.get(first).applyAsLong(x);
                check.due(why + ": question " + second + " behind " + first,
                    QUESTIONS.get(second).applyAsLong(x), alone);
            }
        }
    }

    /** "from as it is now": what was asked before an ACT leaves nothing that counts behind it. */
    private static void afterActs() {
        List<ToLongFunction<GallopDispatch>> acts = new ArrayList<>();
        acts.add(x -> x.move(1, 12));
        acts.add(x -> x.voice(0, 1));
        acts.add(x -> x.deed(2));
        acts.add(x -> x.feedHorse(false));
        acts.add(x -> x.fill(0));
        acts.add(x -> x.rain(0));
        acts.add(x -> x.days(2));
        acts.add(x -> x.years(2, 8L));
        acts.add(x -> x.undo());
        acts.add(x -> x.back());
        acts.add(x -> x.law(0) ? 1 : 0);
        acts.add(x -> x.seen(0, 0, true));
        for (ToLongFunction<GallopDispatch> act : acts) {
            for (ToLongFunction<GallopDispatch> question : QUESTIONS) {
                GallopDispatch fresh = Rich.made();
                act.applyAsLong(fresh);
                GallopDispatch asked = Rich.made();
                for (int k = 0; k < QUESTIONS.size(); k += 3) {
                    QUESTIONS.get(k).applyAsLong(asked);
                }
                act.applyAsLong(asked);
                check.due("a question behind an act", question.applyAsLong(asked), question.applyAsLong(fresh));
            }
        }
    }
}

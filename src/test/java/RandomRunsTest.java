import java.util.NoSuchElementException;
import java.util.Random;

/** Runs of calls by chance, each answer compared with the plain model's; all promises but the face. */
public final class RandomRunsTest {
    private static final int RUNS = 400;
    private static final int CALLS = 400;

    private final Random random;
    private final RandomTexts texts;
    private final GallopDispatch x = new GallopDispatch();
    private final PlainModel model = new PlainModel();
    private String call;
    private long got;
    private long due;

    private RandomRunsTest(long seed) {
        random = new Random(seed);
        texts = new RandomTexts(random);
    }

    public static void main(String[] args) {
        Check check = new Check("RandomRunsTest");
        for (int run = 0; run < RUNS; run++) {
            RandomRunsTest test = new RandomRunsTest(run);
            int calls = 0;
            while (calls < CALLS) {
                calls += test.step();
                check.due("run " + run + ", call " + calls + ": " + test.call, test.got, test.due);
                if (test.got != test.due) {
                    break;
                }
            }
        }
        check.end();
    }

    /** Mostly within bounds, at times one beyond. */
    private int near(int least, int most) {
        int kind = random.nextInt(24);
        if (kind == 0) {
            return least - 1;
        }
        if (kind == 1) {
            return most + 1;
        }
        if (kind == 2 && random.nextInt(8) == 0) {
            return random.nextInt();
        }
        return least + random.nextInt(most - least + 1);
    }

    private int man() {
        return near(0, Math.max(0, model.count(0) - 1));
    }

    private int place() {
        return near(0, Math.max(0, model.rule(0)));
    }

    private void say(String what, long a, long b) {
        call = what;
        got = a;
        due = b;
    }

    private void say(String what, boolean a, boolean b) {
        say(what, a ? 1 : 0, b ? 1 : 0);
    }

    /** Tells a text to both; answers how many calls that took. */
    private int tellText() {
        int sort = model.count(0) == 0 || random.nextInt(8) == 0 ? 0 : 1;
        String text = sort == 0 ? texts.ride() : texts.law();
        if (text.length() > 110 && sort == 1) {
            text = "y:9-d/2";
        }
        if (random.nextInt(6) == 0) {
            text = texts.broken(text);
        }
        int from = random.nextInt(10) == 0 ? model.count(3) : 0;
        say("end(" + from + ")", x.end(from), model.end(from));
        int calls = 1;
        for (int at = 0; at < text.length() && got == due; at += 20) {
            int[] n = new int[5];
            for (int k = 0; k < 20 && at + k < text.length(); k++) {
                n[k / 4] |= text.charAt(at + k) << (24 - 8 * (k % 4));
            }
            say("feed of '" + text + "'", x.feed(n[0], n[1], n[2], n[3], n[4]), model.feed(n));
            calls++;
        }
        if (got == due && random.nextInt(4) == 0) {
            int kind = near(0, 1);
            say("fault(" + kind + ") of '" + text + "'", x.fault(kind), model.fault(kind));
            calls++;
        }
        if (got == due) {
            say("text(" + sort + ") of '" + text + "'", x.text(sort), model.text(sort));
            calls++;
        }
        if (got == due && sort == 1) {
            int law = near(-1, Math.max(0, model.count(2) - 1));
            say("law(" + law + ")", x.law(law), model.law(law));
            calls++;
        }
        return calls;
    }

    private int step() {
        if (random.nextInt(model.count(0) == 0 ? 3 : 40) == 0) {
            return tellText();
        }
        int kind = random.nextInt(5);
        if (kind < 2) {
            act();
        } else if (kind == 2) {
            askState();
        } else {
            ask();
        }
        return 1;
    }

    private void act() {
        int man = man();
        int at = place();
        int v = near(0, 9);
        switch (random.nextInt(14)) {
            case 0: say("move(" + man + ", " + at + ")", x.move(man, at), model.move(man, at)); break;
            case 1: say("voice(" + man + ", " + v + ")", x.voice(man, v), model.voice(man, v)); break;
            case 2: say("deed(" + man + ")", x.deed(man), model.deed(man)); break;
            case 3: {
                boolean faster = random.nextBoolean();
                say("feedHorse(" + faster + ")", x.feedHorse(faster), model.feedHorse(faster));
                break;
            }
            case 4: {
                int ford = near(0, Math.max(0, model.count(1) - 1));
                say("fill(" + ford + ")", x.fill(ford), model.fill(ford));
                break;
            }
            case 5: say("rain(" + v + ")", x.rain(v), model.rain(v)); break;
            case 6: {
                int n = random.nextInt(3) == 0 ? near(1, 60) : 1 + random.nextInt(3);
                say("days(" + n + ")", x.days(n), model.days(n));
                break;
            }
            case 7: say("storm(" + v + ")", x.storm(v), model.storm(v)); break;
            case 8: {
                int n = random.nextInt(3) == 0 ? near(1, 60) : 1 + random.nextInt(3);
                long seed = random.nextBoolean() ? random.nextLong() : random.nextInt(100);
                say("years(" + n + ", " + seed + ")", x.years(n, seed), model.years(n, seed));
                break;
            }
            case 9: case 10: say("undo()", x.undo(), model.undo()); break;
            case 11: say("image()", x.image(), model.image()); break;
            case 12: {
                if (random.nextInt(3) > 0) {
                    int i = near(0, 19);
                    boolean is = random.nextInt(3) == 0;
                    say("seen(" + i + ", " + man + ", " + is + ")", x.seen(i, man, is), model.seen(i, man, is));
                } else {
                    say("back()", x.back(), model.back());
                }
                break;
            }
            default: {
                int law = near(-1, Math.max(0, model.count(2) - 1));
                say("law(" + law + ")", x.law(law), model.law(law));
                break;
            }
        }
    }

    private void askState() {
        int what = near(0, 4);
        switch (random.nextInt(7)) {
            case 0: say("rule(" + what + ")", x.rule(what), model.rule(what)); break;
            case 1: {
                int man = man();
                long answer;
                try {
                    answer = x.man(man, what);
                } catch (NoSuchElementException e) {
                    answer = GallopDispatch.HIDDEN;
                }
                say("man(" + man + ", " + what + ")", answer, model.man(man, what));
                break;
            }
            case 2: {
                int ford = near(0, Math.max(0, model.count(1) - 1));
                int of = near(0, 1);
                say("ford(" + ford + ", " + of + ")", x.ford(ford, of), model.ford(ford, of));
                break;
            }
            case 3: say("status(" + what + ")", x.status(what), model.status(what)); break;
            case 4: {
                int i = near(0, Math.max(0, model.count(9) - 1));
                int of = near(0, 2);
                say("log(" + i + ", " + of + ")", x.log(i, of), model.log(i, of));
                break;
            }
            default: {
                int of = near(0, 10);
                say("count(" + of + ")", x.count(of), model.count(of));
                break;
            }
        }
    }

    private void ask() {
        int man = man();
        int other = man();
        int step = place();
        int what = near(0, 1);
        int i = near(-1, 6);
        int g = near(1, 9);
        int n = near(0, 999);
        switch (random.nextInt(21)) {
            case 0: say("heard(" + man + ", " + step + ")", x.heard(man, step), model.heard(man, step)); break;
            case 1: say("words(" + i + ")", x.words(i), model.words(i)); break;
            case 2: say("mentions(" + man + ")", x.mentions(man), model.mentions(man)); break;
            case 3: case 4: {
                int of = near(0, 5);
                say("ride(" + of + ")", x.ride(of), model.ride(of));
                break;
            }
            case 5: say("stand(" + man + ", " + what + ")", x.stand(man, what), model.stand(man, what)); break;
            case 6: say("gait(" + man + ", " + what + ")", x.gait(man, what), model.gait(man, what)); break;
            case 7: say("put(" + what + ")", x.put(what), model.put(what)); break;
            case 8: say("least(" + man + ")", x.least(man), model.least(man)); break;
            case 9: case 10: say("who(" + g + ", " + i + ")", x.who(g, i), model.who(g, i)); break;
            case 11: case 12: say("best(" + g + ")", x.best(g), model.best(g)); break;
            case 13: say("pension(" + man + ", " + n + ", " + what + ")",
                x.pension(man, n, what), model.pension(man, n, what)); break;
            case 14: say("unfair(" + n + ")", x.unfair(n), model.unfair(n)); break;
            case 15: {
                int a = near(0, 4);
                int b = near(0, 4);
                say("game(" + man + ", " + other + ", " + a + ", " + b + ", " + what + ")",
                    x.game(man, other, a, b, what), model.game(man, other, a, b, what));
                break;
            }
            case 16: say("rests(" + man + ", " + other + ", " + i + ")",
                x.rests(man, other, i), model.rests(man, other, i)); break;
            case 17: {
                int chance = near(0, 100);
                say("odds(" + man + ", " + chance + ")", x.odds(man, chance), model.odds(man, chance));
                break;
            }
            case 18: say("loudest(" + step + ")", x.loudest(step), model.loudest(step)); break;
            case 19: {
                if (random.nextBoolean()) {
                    say("span(" + man + ")", x.span(man), model.span(man));
                } else {
                    say("nearest(" + step + ")", x.nearest(step), model.nearest(step));
                }
                break;
            }
            default: {
                int of = near(0, 3);
                int glory = random.nextBoolean() ? near(1, 9999) : near(1, 60);
                if (random.nextBoolean()) {
                    say("most(" + of + ")", x.most(of), model.most(of));
                } else {
                    say("ahead(" + man + ", " + glory + ")", x.ahead(man, glory), model.ahead(man, glory));
                }
                break;
            }
        }
    }
}

import java.util.ArrayList;
import java.util.List;

/**
 * The document once more, written for plainness alone and apart from the class: whole copies for undoing,
 * laws worked out from their text each time. RandomRunsTest compares the two.
 */
final class PlainModel {
    static final int NONE = -1;
    static final int HIDDEN = -1000000;

    static final class World {
        int[] stand;
        int[] voice;
        int[] deeds;
        int[] rank;
        int[] glory;
        int[] fordAt;
        int[] depth;
        int length;
        int pace;
        int words;
        int mud;
        int coins;
        int day;
        List<int[]> log = new ArrayList<>();

        World copy() {
            World w = new World();
            w.stand = stand.clone();
            w.voice = voice.clone();
            w.deeds = deeds.clone();
            w.rank = rank.clone();
            w.glory = glory.clone();
            w.fordAt = fordAt.clone();
            w.depth = depth.clone();
            w.length = length;
            w.pace = pace;
            w.words = words;
            w.mud = mud;
            w.coins = coins;
            w.day = day;
            w.log = new ArrayList<>(log);
            return w;
        }
    }

    /** What one ride writes. */
    static final class Written {
        final List<Integer> who = new ArrayList<>();
        final List<Integer> where = new ArrayList<>();
        int slips;

        int of(int man) {
            int n = 0;
            for (int w : who) {
                n += w == man ? 1 : 0;
            }
            return n;
        }

        int bits() {
            int bits = 0;
            for (int w : who) {
                bits |= 1 << w;
            }
            return bits;
        }

        int at(int i) {
            return i >= 0 && i < who.size() ? who.get(i) : NONE;
        }
    }

    private World now;
    private World first;
    private World image;
    private final List<World> acts = new ArrayList<>();
    private final List<String> laws = new ArrayList<>();
    private final List<int[]> seen = new ArrayList<>();
    private final int[] status = new int[5];
    private String tape = "";
    private int holding = NONE;
    private int storm;

    // ---- texts ----

    int feed(int... numbers) {
        StringBuilder more = new StringBuilder();
        for (int n : numbers) {
            for (int shift = 24; shift >= 0; shift -= 8) {
                char sign = (char) (n >>> shift & 255);
                if (sign != 0) {
                    more.append(sign);
                }
            }
        }
        if (tape.length() + more.length() > 240) {
            return NONE;
        }
        tape += more;
        return tape.length();
    }

    boolean end(int n) {
        if (n < 0 || n > tape.length()) {
            return false;
        }
        tape = tape.substring(0, n);
        return true;
    }

    int fault(int sort) {
        return sort == 0 ? TextOracle.rideFault(tape) : sort == 1 ? TextOracle.lawFault(tape) : -2;
    }

    int text(int sort) {
        if (sort < 0 || sort > 1 || fault(sort) != NONE) {
            return NONE;
        }
        if (sort == 1) {
            if (laws.size() == 4) {
                return NONE;
            }
            laws.add(tape.replace(" ", ""));
            tape = "";
            return laws.size() - 1;
        }
        now = TextOracle.rideOf(tape);
        first = now.copy();
        tape = "";
        image = null;
        acts.clear();
        seen.clear();
        return now.stand.length;
    }

    boolean law(int l) {
        if (l < -1 || l >= laws.size()) {
            return false;
        }
        holding = l;
        return true;
    }

    // ---- heard, ridden ----

    private boolean noMan(int man) {
        return now == null || man < 0 || man >= now.stand.length;
    }

    private boolean noStep(int step) {
        return now == null || step < 0 || step > now.length;
    }

    private int heardIn(World w, int man, int step) {
        for (int f = 0; f < w.fordAt.length; f++) {
            if (w.fordAt[f] == step && w.depth[f] > 0) {
                return 0;
            }
        }
        int far = Math.abs(w.stand[man] - step);
        long worth = w.voice[man] - far - w.pace / 2 + w.rank[man] / 3;
        if (holding != NONE) {
            int[] letters = {w.voice[man], far, w.pace, w.mud, w.rank[man], step};
            worth = new LawWorker(laws.get(holding), letters).worth();
        }
        return (int) Math.max(0, Math.min(9, worth));
    }

    private int loudestIn(World w, int step) {
        int best = NONE;
        int most = 0;
        for (int k = 0; k < w.stand.length; k++) {
            int heard = heardIn(w, k, step);
            if (heard > most) {
                most = heard;
                best = k;
            }
        }
        return best;
    }

    private Written rideOf(World w, int room) {
        Written out = new Written();
        for (int step = 0; step <= w.length; step++) {
            if (step % w.pace != 0 || out.who.size() >= room) {
                continue;
            }
            int loudest = loudestIn(w, step);
            if (loudest == NONE) {
                continue;
            }
            int word = loudest;
            if (heardIn(w, loudest, step) <= 2 && w.mud > 0) {
                out.slips++;
                word = (loudest + 1) % w.stand.length;
            }
            out.who.add(word);
            out.where.add(step);
        }
        return out;
    }

    private Written rideOf(World w) {
        return rideOf(w, w.words);
    }

    // ---- as it is ----

    int rule(int what) {
        if (now == null || what < 0 || what > 4) {
            return NONE;
        }
        return new int[] {now.length, now.pace, now.words, now.mud, now.coins}[what];
    }

    /** HIDDEN stands for the exception here. */
    int man(int man, int what) {
        if (noMan(man) || what < 0 || what > 4) {
            return HIDDEN;
        }
        return new int[] {now.stand[man], now.voice[man], now.deeds[man], now.rank[man], now.glory[man]}[what];
    }

    int ford(int ford, int what) {
        if (now == null || ford < 0 || ford >= now.fordAt.length || what < 0 || what > 1) {
            return NONE;
        }
        return what == 0 ? now.fordAt[ford] : now.depth[ford];
    }

    int heard(int man, int step) {
        return noMan(man) || noStep(step) ? NONE : heardIn(now, man, step);
    }

    int status(int what) {
        return what < 0 || what > 4 ? NONE : status[what];
    }

    int log(int i, int what) {
        if (now == null || i < 0 || i >= Math.min(60, now.log.size()) || what < 0 || what > 2) {
            return NONE;
        }
        return now.log.get(now.log.size() - 1 - i)[what];
    }

    int count(int what) {
        int glory = 0;
        if (now != null) {
            for (int g : now.glory) {
                glory += g;
            }
        }
        switch (what) {
            case 0: return now == null ? 0 : now.stand.length;
            case 1: return now == null ? 0 : now.fordAt.length;
            case 2: return laws.size();
            case 3: return tape.length();
            case 4: return holding;
            case 5: return now == null ? 0 : now.day;
            case 6: return glory;
            case 7: return storm;
            case 8: return seen.size();
            case 9: return now == null ? 0 : Math.min(60, now.log.size());
            case 10: return acts.size();
            default: return HIDDEN;
        }
    }

    // ---- acts ----

    private int refuse(int why) {
        status[why]++;
        return NONE;
    }

    private void act() {
        acts.add(now.copy());
        if (acts.size() > 40) {
            acts.remove(0);
        }
    }

    int move(int man, int at) {
        if (noMan(man)) {
            return refuse(0);
        }
        if (noStep(at)) {
            return refuse(1);
        }
        if (now.stand[man] == at) {
            return refuse(2);
        }
        int price = Math.abs(now.stand[man] - at);
        if (price > now.coins) {
            return refuse(3);
        }
        act();
        now.stand[man] = at;
        return now.coins -= price;
    }

    int voice(int man, int v) {
        if (noMan(man)) {
            return refuse(0);
        }
        if (v < 0 || v > 9) {
            return refuse(1);
        }
        if (now.voice[man] == v) {
            return refuse(2);
        }
        if (now.coins < 2) {
            return refuse(3);
        }
        act();
        now.voice[man] = v;
        return now.coins -= 2;
    }

    int deed(int man) {
        if (noMan(man)) {
            return refuse(0);
        }
        if (now.deeds[man] == 9) {
            return refuse(2);
        }
        act();
        return ++now.deeds[man];
    }

    int feedHorse(boolean faster) {
        if (now == null) {
            return refuse(0);
        }
        if (now.pace == (faster ? 5 : 1)) {
            return refuse(1);
        }
        if (now.coins < 3) {
            return refuse(3);
        }
        act();
        now.coins -= 3;
        return now.pace += faster ? 1 : -1;
    }

    int fill(int ford) {
        if (now == null || ford < 0 || ford >= now.fordAt.length) {
            return refuse(0);
        }
        if (now.depth[ford] == 0) {
            return refuse(2);
        }
        if (now.coins == 0) {
            return refuse(3);
        }
        act();
        now.coins--;
        return --now.depth[ford];
    }

    int rain(int v) {
        if (now == null) {
            return refuse(0);
        }
        if (v < 0 || v > 9) {
            return refuse(1);
        }
        if (v == now.mud) {
            return refuse(2);
        }
        act();
        int was = now.mud;
        now.mud = v;
        return was;
    }

    private void day() {
        Written out = rideOf(now);
        for (int k = 0; k < now.glory.length; k++) {
            now.glory[k] = Math.min(9999, now.glory[k] + out.of(k));
        }
        now.coins = Math.min(999, now.coins + Integer.bitCount(out.bits()));
        now.log.add(new int[] {out.who.size(), out.slips, out.bits()});
        now.day++;
    }

    int days(int n) {
        if (now == null) {
            return refuse(0);
        }
        if (n < 1 || n > 60) {
            return refuse(1);
        }
        if (now.day + n > 999) {
            return refuse(4);
        }
        for (int k = 0; k < n; k++) {
            act();
            day();
        }
        return now.day;
    }

    boolean storm(int v) {
        if (v < 0 || v > 9 || v == storm) {
            return false;
        }
        storm = v;
        return true;
    }

    private java.math.BigInteger drawing;

    private int draw(int of) {
        java.math.BigInteger two64 = java.math.BigInteger.ONE.shiftLeft(64);
        drawing = drawing.multiply(new java.math.BigInteger("6364136223846793005"))
            .add(new java.math.BigInteger("1442695040888963407")).mod(two64);
        return drawing.shiftRight(33).mod(java.math.BigInteger.valueOf(of)).intValue();
    }

    int years(int n, long seed) {
        if (now == null || n < 1 || n > 60 || now.day + n > 999) {
            return NONE;
        }
        drawing = new java.math.BigInteger(Long.toUnsignedString(seed));
        for (int k = 0; k < n; k++) {
            act();
            int man = draw(now.stand.length);
            now.stand[man] = draw(now.length + 1);
            if (draw(10) < storm) {
                now.mud = draw(10);
            }
            day();
        }
        return now.day;
    }

    int undo() {
        if (acts.isEmpty()) {
            return NONE;
        }
        now = acts.remove(acts.size() - 1);
        return acts.size();
    }

    int image() {
        if (now == null) {
            return NONE;
        }
        image = now.copy();
        return now.day;
    }

    int back() {
        if (image == null) {
            return NONE;
        }
        now = image.copy();
        acts.clear();
        return now.day;
    }

    // ---- questions ----

    int words(int i) {
        if (now == null) {
            return NONE;
        }
        Written out = rideOf(now);
        return i == NONE ? out.who.size() : out.at(i);
    }

    int mentions(int man) {
        return noMan(man) ? NONE : rideOf(now).of(man);
    }

    int ride(int what) {
        if (now == null) {
            return NONE;
        }
        Written out = rideOf(now);
        switch (what) {
            case 0: return out.slips;
            case 1: return ((1 << now.stand.length) - 1) ^ out.bits();
            case 2: return out.who.size() == now.words ? out.where.get(now.words - 1) : NONE;
            case 3:
                for (int room = 1; room < 20; room++) {
                    if (rideOf(now, room).bits() == rideOf(now, 20).bits()) {
                        return room;
                    }
                }
                return 20;
            case 4:
                int wet = 0;
                for (int depth : now.depth) {
                    wet += depth > 0 ? 1 : 0;
                }
                return now.length + 1 - wet;
            case 5:
                int time = now.length / now.pace;
                for (int depth : now.depth) {
                    time += depth;
                }
                return time;
            default: return NONE;
        }
    }

    int stand(int man, int what) {
        if (noMan(man) || what < 0 || what > 1) {
            return NONE;
        }
        int[] best = {0, -1};
        for (int at = 0; at <= now.length; at++) {
            World w = now.copy();
            w.stand[man] = at;
            int n = rideOf(w).of(man);
            if (n > best[1]) {
                best = new int[] {at, n};
            }
        }
        return best[what];
    }

    int gait(int man, int what) {
        if (noMan(man) || what < 0 || what > 1) {
            return NONE;
        }
        int[] best = {0, -1};
        for (int pace = 1; pace <= 5; pace++) {
            World w = now.copy();
            w.pace = pace;
            int n = rideOf(w).of(man);
            if (n > best[1]) {
                best = new int[] {pace, n};
            }
        }
        return best[what];
    }

    int put(int what) {
        if (now == null || what < 0 || what > 1) {
            return NONE;
        }
        int[] best = {0, -1};
        for (int code = 0; code < 100 * now.stand.length; code++) {
            int man = code / 100;
            int at = code % 100;
            if (at > now.length || at == now.stand[man]) {
                continue;
            }
            World w = now.copy();
            w.stand[man] = at;
            int n = Integer.bitCount(rideOf(w).bits());
            if (n > best[1]) {
                best = new int[] {code, n};
            }
        }
        return best[what];
    }

    int least(int man) {
        for (int v = 0; !noMan(man) && v <= 9; v++) {
            World w = now.copy();
            w.voice[man] = v;
            if (rideOf(w).of(man) > 0) {
                return v;
            }
        }
        return NONE;
    }

    int seen(int i, int man, boolean is) {
        if (noMan(man) || i < 0 || i > 19 || seen.size() == 10) {
            return NONE;
        }
        seen.add(new int[] {i, man, is ? 1 : 0});
        return seen.size();
    }

    private List<Integer> fits(int g, List<Written> tellings) {
        List<Integer> out = new ArrayList<>();
        for (int k = 0; k <= 9; k++) {
            if (k != 9 && k >= first.stand.length) {
                continue;
            }
            World w = first.copy();
            if (k != 9) {
                w.stand[k] = Math.min(w.length, w.stand[k] + g);
            }
            Written told = rideOf(w);
            boolean fit = true;
            for (int[] s : seen) {
                fit &= (told.at(s[0]) == s[1]) == (s[2] == 1);
            }
            if (fit) {
                out.add(k);
                tellings.add(told);
            }
        }
        return out;
    }

    int who(int g, int i) {
        if (now == null || g < 1 || g > 9) {
            return NONE;
        }
        List<Integer> fits = fits(g, new ArrayList<>());
        if (i == NONE) {
            return fits.size();
        }
        return i >= 0 && i < fits.size() ? fits.get(i) : NONE;
    }

    int best(int g) {
        if (now == null || g < 1 || g > 9) {
            return NONE;
        }
        List<Written> tellings = new ArrayList<>();
        fits(g, tellings);
        int best = NONE;
        int fewest = 99;
        for (int i = 0; i < 20 && !tellings.isEmpty(); i++) {
            int[] votes = new int[7];
            int most = 0;
            for (Written told : tellings) {
                most = Math.max(most, ++votes[told.at(i) + 1]);
            }
            if (most < fewest) {
                fewest = most;
                best = i;
            }
        }
        return best;
    }

    int pension(int man, int n, int what) {
        if (noMan(man) || n < 0 || n > 999 || what < 0 || what > 1) {
            return NONE;
        }
        Written out = rideOf(now);
        int all = 0;
        for (int k = 0; k < now.stand.length; k++) {
            all += what == 0 ? out.of(k) : now.deeds[k];
        }
        return all == 0 ? 0 : n * (what == 0 ? out.of(man) : now.deeds[man]) / all;
    }

    int unfair(int n) {
        if (now == null || n < 0 || n > 999) {
            return NONE;
        }
        int all = 0;
        for (int k = 0; k < now.stand.length; k++) {
            all += Math.abs(pension(k, n, 0) - pension(k, n, 1));
        }
        return all;
    }

    private int[] play(int one, int other, int x, int y) {
        World w = now.copy();
        w.voice[one] = Math.min(9, w.voice[one] + x);
        w.voice[other] = Math.min(9, w.voice[other] + y);
        Written out = rideOf(w);
        return new int[] {3 * out.of(one) - x, 3 * out.of(other) - y};
    }

    int game(int one, int other, int x, int y, int what) {
        if (noMan(one) || noMan(other) || one == other || x < 0 || x > 4 || y < 0 || y > 4 || what < 0 || what > 1) {
            return HIDDEN;
        }
        return play(one, other, x, y)[what];
    }

    int rests(int one, int other, int i) {
        if (noMan(one) || noMan(other) || one == other) {
            return NONE;
        }
        int[][][] has = new int[5][5][];
        for (int k = 0; k < 25; k++) {
            has[k / 5][k % 5] = play(one, other, k / 5, k % 5);
        }
        List<Integer> rests = new ArrayList<>();
        for (int x = 0; x < 5; x++) {
            for (int y = 0; y < 5; y++) {
                boolean rest = true;
                for (int z = 0; z < 5; z++) {
                    rest &= has[z][y][0] <= has[x][y][0] && has[x][z][1] <= has[x][y][1];
                }
                if (rest) {
                    rests.add(10 * x + y);
                }
            }
        }
        if (i == NONE) {
            return rests.size();
        }
        return i >= 0 && i < rests.size() ? rests.get(i) : NONE;
    }

    int odds(int man, int chance) {
        if (noMan(man) || chance < 0 || chance > 100) {
            return NONE;
        }
        long[] parts = new long[now.words + 1];
        parts[0] = 1000000000L;
        long mentioned = 0;
        World clear = now.copy();
        Written all = rideOf(clear, 99);
        for (int word : all.who) {
            long[] then = new long[now.words + 1];
            for (int k = 0; k <= now.words; k++) {
                if (k == now.words) {
                    then[k] += parts[k];
                    continue;
                }
                long nothing = parts[k] * chance / 100;
                then[k] += nothing;
                if (word == man) {
                    mentioned += parts[k] - nothing;
                } else {
                    then[k + 1] += parts[k] - nothing;
                }
            }
            parts = then;
        }
        return (int) mentioned;
    }

    int loudest(int step) {
        return noStep(step) ? NONE : loudestIn(now, step);
    }

    int span(int man) {
        if (noMan(man)) {
            return NONE;
        }
        int n = 0;
        for (int step = 0; step <= now.length; step++) {
            n += heardIn(now, man, step) > 0 ? 1 : 0;
        }
        return n;
    }

    int nearest(int step) {
        for (int far = 0; !noStep(step) && far <= 30; far++) {
            for (int k = 0; k < now.stand.length; k++) {
                if (Math.abs(now.stand[k] - step) == far) {
                    return k;
                }
            }
        }
        return NONE;
    }

    int most(int what) {
        if (now == null || what < 0 || what > 3) {
            return NONE;
        }
        int[] row = new int[][] {now.deeds, now.glory, now.rank, now.depth}[what];
        for (int n = 9999; n >= 0; n--) {
            for (int k = 0; k < row.length; k++) {
                if (row[k] == n) {
                    return k;
                }
            }
        }
        return NONE;
    }

    int ahead(int man, int n) {
        if (noMan(man) || n < 1 || n > 9999) {
            return NONE;
        }
        int daily = rideOf(now).of(man);
        int glory = now.glory[man];
        for (int days = 0; days <= 999; days++) {
            if (glory >= n) {
                return days;
            }
            glory += daily;
        }
        return NONE;
    }

    /** Works a law out from its signs, without blanks, each time anew. */
    private static final class LawWorker {
        private final String law;
        private final int[] letters;
        private int at;

        LawWorker(String law, int[] letters) {
            this.law = law;
            this.letters = letters;
        }

        long worth() {
            for (String clause : law.split(";")) {
                String body = clause.substring(2);
                int mark = body.indexOf('?');
                if (mark < 0 || new LawWorker(body.substring(0, mark), letters).condition()) {
                    return new LawWorker(body.substring(mark + 1), letters).sum();
                }
            }
            return 0;
        }

        private boolean is(char sign) {
            boolean it = at < law.length() && law.charAt(at) == sign;
            at += it ? 1 : 0;
            return it;
        }

        private boolean condition() {
            boolean all = truth();
            while (is('|')) {
                all = truth() | all;
            }
            return all;
        }

        private boolean truth() {
            boolean all = unit();
            while (is('&')) {
                all = unit() & all;
            }
            return all;
        }

        private boolean unit() {
            if (is('!')) {
                return !unit();
            }
            if (is('(')) {
                boolean inside = condition();
                is(')');
                return inside;
            }
            long a = sum();
            char sign = law.charAt(at++);
            long b = sum();
            return sign == '=' ? a == b : sign == '<' ? a < b : a > b;
        }

        private static long held(long n) {
            return Math.max(-1000000, Math.min(1000000, n));
        }

        private long sum() {
            long all = term();
            while (at < law.length()) {
                if (is('+')) {
                    all = held(all + term());
                } else if (is('-')) {
                    all = held(all - term());
                } else {
                    break;
                }
            }
            return all;
        }

        private long term() {
            long all = atom();
            while (at < law.length()) {
                if (is('*')) {
                    all = held(all * atom());
                } else if (is('/')) {
                    long by = atom();
                    all = by == 0 ? 0 : all / by;
                } else {
                    break;
                }
            }
            return all;
        }

        private long atom() {
            if (is('[')) {
                long inside = sum();
                is(']');
                return inside;
            }
            int letter = "vdpmrn".indexOf(law.charAt(at));
            if (letter >= 0) {
                at++;
                return letters[letter];
            }
            int from = at;
            while (at < law.length() && Character.isDigit(law.charAt(at))) {
                at++;
            }
            return Long.parseLong(law.substring(from, at));
        }
    }
}

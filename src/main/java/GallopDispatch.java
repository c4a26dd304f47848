import java.util.Arrays;
import java.util.NoSuchElementException;

/** A general rides a road and dictates at a gallop; the words in capitals are the document's. */
public final class GallopDispatch {
    public static final int NONE = -1;
    public static final int HIDDEN = -1000000;

    private static final int MEN_LIMIT = 6;
    private static final int FORD_LIMIT = 5;
    private static final int LAW_LIMIT = 4;
    private static final int ROAD_LIMIT = 30;
    private static final int WORD_LIMIT = 20;
    private static final int NINE = 9;
    private static final int PACE_LIMIT = 5;
    private static final int SHOUT_LIMIT = 4;
    private static final int DAY_LIMIT = 999;
    private static final int DAYS_AT_ONCE = 60;
    private static final int GLORY_LIMIT = 9999;
    private static final int COIN_LIMIT = 999;

    private static final int VOICE_PRICE = 2;
    private static final int FEED_PRICE = 3;
    private static final int FILL_PRICE = 1;

    private static final int NO_SUCH = 0;
    private static final int OUT_OF_BOUNDS = 1;
    private static final int IT_IS_SO = 2;
    private static final int TOO_FEW = 3;
    private static final int BEYOND_LAST_DAY = 4;

    private static final int RIDE_SORT = 0;
    private static final int LAW_SORT = 1;
    private static final int NO_SUCH_SORT = -2;

    private static final long DRAW_FACTOR = 6364136223846793005L;
    private static final long DRAW_SUMMAND = 1442695040888963407L;

    private final Tape tape = new Tape();
    private final RideReader rideReader = new RideReader(tape);
    private final LawReader lawReader = new LawReader(tape);
    private final Told told = new Told();
    private final State atFirst = new State();
    private final State now = new State();
    private final Diary diary = new Diary();
    private final Acts acts = new Acts();
    private final State imageState = new State();
    private final Diary imageDiary = new Diary();
    private final Law[] laws = new Law[LAW_LIMIT];
    private final Course course = new Course();
    private final Sightings sightings = new Sightings();
    private final int[] refused = new int[5];
    private final int[][] pays = new int[2][(SHOUT_LIMIT + 1) * (SHOUT_LIMIT + 1)];
    private boolean imageKept;
    private int lawCount;
    private int holding = NONE;
    private int stormLevel;

    public GallopDispatch() {
        for (int k = 0; k < LAW_LIMIT; k++) {
            laws[k] = new Law();
        }
    }

    // ---- texts ----

    public int feed(int a, int b, int c, int d, int e) {
        int more = Tape.bytesIn(a) + Tape.bytesIn(b) + Tape.bytesIn(c) + Tape.bytesIn(d) + Tape.bytesIn(e);
        if (tape.size() + more > Tape.LIMIT) {
            return NONE;
        }
        tape.append(a);
        tape.append(b);
        tape.append(c);
        tape.append(d);
        tape.append(e);
        return tape.size();
    }

    public boolean end(int n) {
        if (n < 0 || n > tape.size()) {
            return false;
        }
        tape.cut(n);
        return true;
    }

    public int fault(int sort) {
        if (sort == RIDE_SORT) {
            return rideReader.read();
        }
        return sort == LAW_SORT ? lawReader.read() : NO_SUCH_SORT;
    }

    public int text(int sort) {
        if (sort == RIDE_SORT && rideReader.read() == NONE) {
            return beginRide();
        }
        if (sort == LAW_SORT && lawCount < LAW_LIMIT && lawReader.read() == NONE) {
            return keepLaw();
        }
        return NONE;
    }

    private int beginRide() {
        tape.cut(0);
        told.copyFrom(rideReader.draft);
        atFirst.begin(told);
        now.copyFrom(atFirst);
        acts.forget();
        sightings.forget();
        imageKept = false;
        return told.menCount;
    }

    private int keepLaw() {
        tape.cut(0);
        laws[lawCount].copyFrom(lawReader.draft);
        lawCount++;
        return lawCount - 1;
    }

    // ---- what is so now ----

    public int rule(int what) {
        if (noRide()) {
            return NONE;
        }
        switch (what) {
            case 0: return roadLength();
            case 1: return now.pace;
            case 2: return room();
            case 3: return now.mud;
            case 4: return now.coins;
            default: return NONE;
        }
    }

    public int man(int man, int what) throws NoSuchElementException {
        if (!isMan(man) || what < 0 || what > 4) {
            throw new NoSuchElementException("no such MAN, or no such thing of him");
        }
        switch (what) {
            case 0: return now.stands[man];
            case 1: return now.voices[man];
            case 2: return now.deeds[man];
            case 3: return told.men[man][Told.RANK];
            default: return now.glory[man];
        }
    }

    public int ford(int ford, int what) {
        if (!isFord(ford)) {
            return NONE;
        }
        switch (what) {
            case 0: return told.fords[ford][Told.PLACE];
            case 1: return now.depths[ford];
            default: return NONE;
        }
    }

    public boolean law(int law) {
        if (law < NONE || law >= lawCount) {
            return false;
        }
        holding = law;
        return true;
    }

    public int heard(int man, int step) {
        if (!isMan(man) || !isStep(step)) {
            return NONE;
        }
        setCourse();
        return course.loudness(man, step);
    }

    public int count(int what) {
        switch (what) {
            case 0: return told.menCount;
            case 1: return told.fordCount;
            case 2: return lawCount;
            case 3: return tape.size();
            case 4: return holding;
            case 5: return now.day;
            case 6: return gloryOfAll();
            case 7: return stormLevel;
            case 8: return sightings.size();
            case 9: return Diary.linesAt(now.day);
            case 10: return acts.size();
            default: return HIDDEN;
        }
    }

    private int gloryOfAll() {
        int all = 0;
        for (int k = 0; k < told.menCount; k++) {
            all += now.glory[k];
        }
        return all;
    }

    private boolean noRide() {
        return told.menCount == 0;
    }

    private boolean isMan(int man) {
        return man >= 0 && man < told.menCount;
    }

    private boolean isFord(int ford) {
        return ford >= 0 && ford < told.fordCount;
    }

    private boolean isStep(int step) {
        return !noRide() && step >= 0 && step <= roadLength();
    }

    private int roadLength() {
        return told.rules[Told.LENGTH];
    }

    private int room() {
        return told.rules[Told.WORDS];
    }

    // ---- acts ----

    public int move(int man, int at) {
        if (!isMan(man)) {
            return refuse(NO_SUCH);
        }
        if (!isStep(at)) {
            return refuse(OUT_OF_BOUNDS);
        }
        int price = Math.abs(at - now.stands[man]);
        if (price == 0) {
            return refuse(IT_IS_SO);
        }
        if (now.coins < price) {
            return refuse(TOO_FEW);
        }
        acts.keep(now);
        now.stands[man] = at;
        now.coins -= price;
        return now.coins;
    }

    public int voice(int man, int v) {
        if (!isMan(man)) {
            return refuse(NO_SUCH);
        }
        if (v < 0 || v > NINE) {
            return refuse(OUT_OF_BOUNDS);
        }
        if (now.voices[man] == v) {
            return refuse(IT_IS_SO);
        }
        if (now.coins < VOICE_PRICE) {
            return refuse(TOO_FEW);
        }
        acts.keep(now);
        now.voices[man] = v;
        now.coins -= VOICE_PRICE;
        return now.coins;
    }

    public int deed(int man) {
        if (!isMan(man)) {
            return refuse(NO_SUCH);
        }
        if (now.deeds[man] >= NINE) {
            return refuse(IT_IS_SO);
        }
        acts.keep(now);
        now.deeds[man]++;
        return now.deeds[man];
    }

    public int feedHorse(boolean faster) {
        if (noRide()) {
            return refuse(NO_SUCH);
        }
        int pace = faster ? now.pace + 1 : now.pace - 1;
        if (pace < 1 || pace > PACE_LIMIT) {
            return refuse(OUT_OF_BOUNDS);
        }
        if (now.coins < FEED_PRICE) {
            return refuse(TOO_FEW);
        }
        acts.keep(now);
        now.pace = pace;
        now.coins -= FEED_PRICE;
        return pace;
    }

    public int fill(int ford) {
        if (!isFord(ford)) {
            return refuse(NO_SUCH);
        }
        if (now.depths[ford] == 0) {
            return refuse(IT_IS_SO);
        }
        if (now.coins < FILL_PRICE) {
            return refuse(TOO_FEW);
        }
        acts.keep(now);
        now.depths[ford]--;
        now.coins -= FILL_PRICE;
        return now.depths[ford];
    }

    public int rain(int v) {
        if (noRide()) {
            return refuse(NO_SUCH);
        }
        if (v < 0 || v > NINE) {
            return refuse(OUT_OF_BOUNDS);
        }
        int before = now.mud;
        if (before == v) {
            return refuse(IT_IS_SO);
        }
        acts.keep(now);
        now.mud = v;
        return before;
    }

    public int days(int n) {
        if (noRide()) {
            return refuse(NO_SUCH);
        }
        if (n < 1 || n > DAYS_AT_ONCE) {
            return refuse(OUT_OF_BOUNDS);
        }
        if (now.day + n > DAY_LIMIT) {
            return refuse(BEYOND_LAST_DAY);
        }
        for (int k = 0; k < n; k++) {
            acts.keep(now);
            rideNow();
            closeDay();
        }
        return now.day;
    }

    public boolean storm(int v) {
        if (v < 0 || v > NINE || v == stormLevel) {
            return false;
        }
        stormLevel = v;
        return true;
    }

    public int years(int n, long seed) {
        if (noRide() || n < 1 || n > DAYS_AT_ONCE || now.day + n > DAY_LIMIT) {
            return NONE;
        }
        long x = seed;
        for (int k = 0; k < n; k++) {
            acts.keep(now);
            x = passChance(x);
            rideNow();
            closeDay();
        }
        return now.day;
    }

    public int status(int what) {
        return what < 0 || what >= refused.length ? NONE : refused[what];
    }

    public int undo() {
        if (acts.size() == 0) {
            return NONE;
        }
        acts.takeBack(now);
        return acts.size();
    }

    public int log(int i, int what) {
        if (i < 0 || i >= Diary.linesAt(now.day)) {
            return NONE;
        }
        return diary.readBack(now.day, i, what);
    }

    public int image() {
        if (noRide()) {
            return NONE;
        }
        imageState.copyFrom(now);
        imageDiary.copyFrom(diary);
        imageKept = true;
        return now.day;
    }

    public int back() {
        if (!imageKept) {
            return NONE;
        }
        now.copyFrom(imageState);
        diary.copyFrom(imageDiary);
        acts.forget();
        return now.day;
    }

    private int refuse(int why) {
        refused[why]++;
        return NONE;
    }

    /** What the RIDE of a DAY brings when it is over. */
    private void closeDay() {
        for (int k = 0; k < told.menCount; k++) {
            now.glory[k] = Math.min(GLORY_LIMIT, now.glory[k] + course.named[k]);
        }
        int names = course.namedBits();
        now.coins = Math.min(COIN_LIMIT, now.coins + Integer.bitCount(names));
        diary.write(now.day, course.size, course.slips, names);
        now.day++;
    }

    /** What befalls ahead of a DAY by draws; answers how far the draws have come. */
    private long passChance(long before) {
        long x = nextDraw(before);
        int man = drawn(x, told.menCount);
        x = nextDraw(x);
        now.stands[man] = drawn(x, roadLength() + 1);
        x = nextDraw(x);
        if (drawn(x, 10) < stormLevel) {
            x = nextDraw(x);
            now.mud = drawn(x, 10);
        }
        return x;
    }

    private static long nextDraw(long x) {
        return x * DRAW_FACTOR + DRAW_SUMMAND;
    }

    private static int drawn(long x, int of) {
        return of < 1 ? 0 : (int) ((x >>> 33) % of);
    }

    // ---- questions, apart, from as it is now ----

    private void setCourse() {
        course.setOut(told, now, lawThatHolds());
    }

    private Law lawThatHolds() {
        return holding >= 0 && holding < lawCount ? laws[holding] : null;
    }

    /** The course stands as it is now and all are heard along it; no word is written yet. */
    private void hearNow() {
        setCourse();
        course.hear(0, told.menCount);
    }

    private void rideNow() {
        hearNow();
        course.go(room());
    }

    public int words(int i) {
        if (noRide()) {
            return NONE;
        }
        rideNow();
        return i == NONE ? course.size : course.wordAt(i);
    }

    public int mentions(int man) {
        if (!isMan(man)) {
            return NONE;
        }
        rideNow();
        return course.named[man];
    }

    public int ride(int what) {
        if (noRide()) {
            return NONE;
        }
        rideNow();
        switch (what) {
            case 0: return course.slips;
            case 1: return ((1 << told.menCount) - 1) & ~course.namedBits();
            case 2: return course.lastStep(room());
            case 3:
                course.go(WORD_LIMIT);
                return course.roomForAll();
            case 4: return course.drySteps();
            case 5: return travelTime();
            default: return NONE;
        }
    }

    private int travelTime() {
        int time = roadLength() / Math.max(1, now.pace);
        for (int k = 0; k < told.fordCount; k++) {
            time += now.depths[k];
        }
        return time;
    }

    public int stand(int man, int what) {
        if (!isMan(man) || what < 0 || what > 1) {
            return NONE;
        }
        hearNow();
        int place = 0;
        int most = NONE;
        for (int at = 0; at <= roadLength(); at++) {
            course.place(man, at);
            course.go(room());
            if (course.named[man] > most) {
                most = course.named[man];
                place = at;
            }
        }
        return what == 0 ? place : most;
    }

    public int gait(int man, int what) {
        if (!isMan(man) || what < 0 || what > 1) {
            return NONE;
        }
        setCourse();
        int gait = 1;
        int most = NONE;
        for (int pace = 1; pace <= PACE_LIMIT; pace++) {
            course.ridePace(pace);
            course.go(room());
            if (course.named[man] > most) {
                most = course.named[man];
                gait = pace;
            }
        }
        return what == 0 ? gait : most;
    }

    public int put(int what) {
        if (noRide() || what < 0 || what > 1) {
            return NONE;
        }
        hearNow();
        int best = NONE;
        int most = NONE;
        for (int man = 0; man < told.menCount; man++) {
            for (int at = 0; at <= roadLength(); at++) {
                if (at == now.stands[man]) {
                    continue;
                }
                course.place(man, at);
                course.go(room());
                int names = Integer.bitCount(course.namedBits());
                if (names > most) {
                    most = names;
                    best = 100 * man + at;
                }
            }
            course.place(man, now.stands[man]);
        }
        return what == 0 ? best : most;
    }

    public int least(int man) {
        if (!isMan(man)) {
            return NONE;
        }
        hearNow();
        for (int v = 0; v <= NINE; v++) {
            course.speak(man, v);
            course.go(room());
            if (course.named[man] > 0) {
                return v;
            }
        }
        return NONE;
    }

    public int seen(int i, int man, boolean is) {
        if (!isMan(man) || i < 0 || i >= WORD_LIMIT || sightings.size() >= Sightings.LIMIT) {
            return NONE;
        }
        sightings.add(i, man, is);
        return sightings.size();
    }

    public int who(int g, int i) {
        if (noRide() || g < 1 || g > NINE) {
            return NONE;
        }
        weighSightings(g);
        return i == NONE ? sightings.fitCount() : sightings.fitAt(i);
    }

    public int best(int g) {
        if (noRide() || g < 1 || g > NINE) {
            return NONE;
        }
        weighSightings(g);
        return sightings.wordToLookAt();
    }

    /** SEEN is of the RIDE as told, so the course is set out as it was at first. */
    private void weighSightings(int g) {
        course.setOut(told, atFirst, lawThatHolds());
        course.hear(0, told.menCount);
        sightings.weighAnew();
        for (int man = 0; man < told.menCount; man++) {
            course.place(man, Math.min(roadLength(), atFirst.stands[man] + g));
            course.go(room());
            sightings.keepIfFit(man, course);
            course.place(man, atFirst.stands[man]);
        }
        course.go(room());
        sightings.keepIfFit(Sightings.UNMOVED, course);
    }

    public int pension(int man, int n, int what) {
        if (!isMan(man) || n < 0 || n > COIN_LIMIT || what < 0 || what > 1) {
            return NONE;
        }
        if (what == 1) {
            return share(now.deeds, man, n);
        }
        rideNow();
        return share(course.named, man, n);
    }

    public int unfair(int n) {
        if (noRide() || n < 0 || n > COIN_LIMIT) {
            return NONE;
        }
        rideNow();
        int apart = 0;
        for (int k = 0; k < told.menCount; k++) {
            apart += Math.abs(share(course.named, k, n) - share(now.deeds, k, n));
        }
        return apart;
    }

    private int share(int[] merits, int man, int n) {
        int all = 0;
        for (int k = 0; k < told.menCount; k++) {
            all += merits[k];
        }
        return all == 0 ? 0 : n * merits[man] / all;
    }

    public int game(int one, int other, int x, int y, int what) {
        if (!areTwo(one, other) || what < 0 || what > 1) {
            return HIDDEN;
        }
        if (x < 0 || x > SHOUT_LIMIT || y < 0 || y > SHOUT_LIMIT) {
            return HIDDEN;
        }
        hearNow();
        course.speak(one, shouting(one, x));
        course.speak(other, shouting(other, y));
        course.go(room());
        return what == 0 ? 3 * course.named[one] - x : 3 * course.named[other] - y;
    }

    public int rests(int one, int other, int i) {
        if (!areTwo(one, other)) {
            return NONE;
        }
        playAll(one, other);
        int found = 0;
        for (int k = 0; k < pays[0].length; k++) {
            if (!isRest(k)) {
                continue;
            }
            if (found == i) {
                return 10 * (k / (SHOUT_LIMIT + 1)) + k % (SHOUT_LIMIT + 1);
            }
            found++;
        }
        return i == NONE ? found : NONE;
    }

    private boolean areTwo(int one, int other) {
        return isMan(one) && isMan(other) && one != other;
    }

    private int shouting(int man, int louder) {
        return Math.min(NINE, now.voices[man] + louder);
    }

    /** What both have by all x and y, at the place x times 5 and y. */
    private void playAll(int one, int other) {
        hearNow();
        for (int x = 0; x <= SHOUT_LIMIT; x++) {
            course.speak(one, shouting(one, x));
            for (int y = 0; y <= SHOUT_LIMIT; y++) {
                course.speak(other, shouting(other, y));
                course.go(room());
                int k = (SHOUT_LIMIT + 1) * x + y;
                pays[0][k] = 3 * course.named[one] - x;
                pays[1][k] = 3 * course.named[other] - y;
            }
        }
    }

    private boolean isRest(int k) {
        int choices = SHOUT_LIMIT + 1;
        int x = k / choices;
        int y = k % choices;
        for (int z = 0; z < choices; z++) {
            if (pays[0][choices * z + y] > pays[0][k] || pays[1][choices * x + z] > pays[1][k]) {
                return false;
            }
        }
        return true;
    }

    public int odds(int man, int chance) {
        if (!isMan(man) || chance < 0 || chance > 100) {
            return NONE;
        }
        hearNow();
        return course.partsNaming(man, chance, room());
    }

    public int loudest(int step) {
        if (!isStep(step)) {
            return NONE;
        }
        setCourse();
        course.hearAt(step);
        return course.loudestAt(step);
    }

    public int span(int man) {
        if (!isMan(man)) {
            return NONE;
        }
        setCourse();
        int steps = 0;
        for (int step = 0; step <= roadLength(); step++) {
            if (course.loudness(man, step) > 0) {
                steps++;
            }
        }
        return steps;
    }

    public int nearest(int step) {
        if (!isStep(step)) {
            return NONE;
        }
        int near = 0;
        for (int k = 1; k < told.menCount; k++) {
            if (Math.abs(now.stands[k] - step) < Math.abs(now.stands[near] - step)) {
                near = k;
            }
        }
        return near;
    }

    public int most(int what) {
        if (noRide()) {
            return NONE;
        }
        switch (what) {
            case 0: return firstOfMost(now.deeds, told.menCount);
            case 1: return firstOfMost(now.glory, told.menCount);
            case 2: return highest();
            case 3: return firstOfMost(now.depths, told.fordCount);
            default: return NONE;
        }
    }

    private static int firstOfMost(int[] row, int size) {
        int first = NONE;
        for (int k = 0; k < size; k++) {
            if (first == NONE || row[k] > row[first]) {
                first = k;
            }
        }
        return first;
    }

    private int highest() {
        int first = 0;
        for (int k = 1; k < told.menCount; k++) {
            if (told.men[k][Told.RANK] > told.men[first][Told.RANK]) {
                first = k;
            }
        }
        return first;
    }

    public int ahead(int man, int n) {
        if (!isMan(man) || n < 1 || n > GLORY_LIMIT) {
            return NONE;
        }
        int lacking = n - now.glory[man];
        if (lacking <= 0) {
            return 0;
        }
        rideNow();
        int daily = course.named[man];
        if (daily == 0) {
            return NONE;
        }
        int needed = (lacking + daily - 1) / daily;
        return needed > DAY_LIMIT ? NONE : needed;
    }

    /** The bytes that were fed, and a place in them for whoever reads them. */
    private static final class Tape {
        static final int LIMIT = 240;
        static final int AT_END = -1;
        private static final int BLANK = 32;

        private final int[] bytes = new int[LIMIT];
        private int length;
        private int at;
        private int faultAt = NONE;

        static int bytesIn(int number) {
            int found = 0;
            for (int shift = 24; shift >= 0; shift -= 8) {
                if ((number >>> shift & 255) != 0) {
                    found++;
                }
            }
            return found;
        }

        int size() {
            return length;
        }

        void append(int number) {
            for (int shift = 24; shift >= 0; shift -= 8) {
                int sign = number >>> shift & 255;
                if (sign != 0 && length < LIMIT) {
                    bytes[length] = sign;
                    length++;
                }
            }
        }

        void cut(int n) {
            if (n >= 0 && n < length) {
                length = n;
            }
        }

        void rewind() {
            at = 0;
            faultAt = NONE;
        }

        /** Where reading went wrong, NONE if it did not. */
        int whereWrong() {
            return faultAt;
        }

        /** The next sign behind blanks, not taken. */
        int look() {
            while (at < length && bytes[at] == BLANK) {
                at++;
            }
            return at < length ? bytes[at] : AT_END;
        }

        void pass() {
            if (at < length) {
                at++;
            }
        }

        boolean take(int sign) {
            if (look() != sign) {
                return isWrong();
            }
            pass();
            return true;
        }

        /** The sign at which the reader stands is wrong; answers false for the reader to hand on. */
        boolean isWrong() {
            faultAt = at;
            return false;
        }

        /** The number that was just taken is out of bounds. */
        boolean isWrongNumber() {
            faultAt = at - 1;
            return false;
        }

        /** A number of one to so many digits; NONE: wrong. */
        int takeNumber(int digits) {
            int value = NONE;
            look();
            for (int k = 0; k <= digits && at < length && isDigit(bytes[at]); k++) {
                if (k == digits) {
                    faultAt = at;
                    return NONE;
                }
                value = 10 * Math.max(0, value) + bytes[at] - '0';
                at++;
            }
            if (value == NONE) {
                faultAt = at;
            }
            return value;
        }

        static boolean isDigit(int sign) {
            return sign >= '0' && sign <= '9';
        }
    }

    /** A RIDE as its TEXT told it. */
    private static final class Told {
        static final int LENGTH = 0;
        static final int PACE = 1;
        static final int WORDS = 2;
        static final int MUD = 3;
        static final int COINS = 4;
        static final int PLACE = 0;
        static final int VOICE = 1;
        static final int DEEDS = 2;
        static final int RANK = 3;
        static final int DEPTH = 1;

        final int[] rules = new int[5];
        final int[][] men = new int[MEN_LIMIT][4];
        final int[][] fords = new int[FORD_LIMIT][2];
        int menCount;
        int fordCount;

        void copyFrom(Told other) {
            copyRow(other.rules, rules);
            for (int k = 0; k < MEN_LIMIT; k++) {
                copyRow(other.men[k], men[k]);
            }
            for (int k = 0; k < FORD_LIMIT; k++) {
                copyRow(other.fords[k], fords[k]);
            }
            menCount = other.menCount;
            fordCount = other.fordCount;
        }

        /** All that no single sign is to blame for. */
        boolean isWhole() {
            for (int k = 0; k < menCount; k++) {
                if (men[k][PLACE] > rules[LENGTH]) {
                    return false;
                }
            }
            for (int k = 0; k < fordCount; k++) {
                if (fords[k][PLACE] > rules[LENGTH] || hasFordBefore(k)) {
                    return false;
                }
            }
            return menCount > 0;
        }

        private boolean hasFordBefore(int ford) {
            for (int k = 0; k < ford; k++) {
                if (fords[k][PLACE] == fords[ford][PLACE]) {
                    return true;
                }
            }
            return false;
        }
    }

    private static void copyRow(int[] from, int[] to) {
        System.arraycopy(from, 0, to, 0, Math.min(from.length, to.length));
    }

    /** Reads the TAPE as a RIDE. */
    private static final class RideReader {
        private static final int DIGITS = 2;
        private static final String RULE_LETTERS = "lpwmc";
        private static final int[] RULE_USUAL = {20, 2, 8, 2, 30};
        private static final int[] RULE_LEAST = {5, 1, 1, 0, 0};
        private static final int[] RULE_MOST = {30, 5, 20, 9, 99};
        private static final String MAN_LETTERS = "xver";
        private static final int[] MAN_USUAL = {5, 5, 3, 1};
        private static final int[] MAN_LEAST = {0, 0, 0, 0};
        private static final int[] MAN_MOST = {30, 9, 9, 9};
        private static final String FORD_LETTERS = "xd";
        private static final int[] FORD_USUAL = {10, 3};
        private static final int[] FORD_LEAST = {0, 0};
        private static final int[] FORD_MOST = {30, 9};

        final Told draft = new Told();
        private final Tape tape;
        private boolean rulesTold;

        RideReader(Tape tape) {
            this.tape = tape;
        }

        /** The FAULT, NONE: none, and the draft is the RIDE. */
        int read() {
            tape.rewind();
            rulesTold = false;
            draft.menCount = 0;
            draft.fordCount = 0;
            copyRow(RULE_USUAL, draft.rules);
            for (int k = 0; k <= Tape.LIMIT; k++) {
                if (!readClause()) {
                    return tape.whereWrong();
                }
                if (tape.look() == Tape.AT_END) {
                    return draft.isWhole() ? NONE : tape.size();
                }
                if (!tape.take(';')) {
                    return tape.whereWrong();
                }
            }
            return tape.size();
        }

        private boolean readClause() {
            int sign = tape.look();
            if (sign == 's' && !rulesTold) {
                rulesTold = true;
                tape.pass();
                return readItems(RULE_LETTERS, RULE_LEAST, RULE_MOST, draft.rules);
            }
            if (sign == 'd' && draft.menCount < MEN_LIMIT) {
                int[] row = draft.men[draft.menCount];
                draft.menCount++;
                copyRow(MAN_USUAL, row);
                tape.pass();
                return readItems(MAN_LETTERS, MAN_LEAST, MAN_MOST, row);
            }
            if (sign == 'f' && draft.fordCount < FORD_LIMIT) {
                int[] row = draft.fords[draft.fordCount];
                draft.fordCount++;
                copyRow(FORD_USUAL, row);
                tape.pass();
                return readItems(FORD_LETTERS, FORD_LEAST, FORD_MOST, row);
            }
            return tape.isWrong();
        }

        private boolean readItems(String letters, int[] least, int[] most, int[] row) {
            int were = 0;
            for (int k = 0; k <= letters.length(); k++) {
                int item = placeOf(tape.look(), letters);
                if (item < 0 || item >= row.length) {
                    return true;
                }
                if ((were >> item & 1) != 0) {
                    return tape.isWrong();
                }
                were |= 1 << item;
                tape.pass();
                int number = tape.takeNumber(DIGITS);
                if (number == NONE) {
                    return false;
                }
                if (number < least[item] || number > most[item]) {
                    return tape.isWrongNumber();
                }
                row[item] = number;
            }
            return true;
        }
    }

    /** Where a sign of the TAPE stands among letters, NONE if nowhere. */
    private static int placeOf(int sign, String letters) {
        return sign < 0 ? NONE : letters.indexOf((char) sign);
    }

    /** A LAW, its signs put behind what they join, so that a row of numbers is all its working needs. */
    private static final class Law {
        static final int PLUS = -11;
        static final int MINUS = -12;
        static final int TIMES = -13;
        static final int BY = -14;
        static final int LIKE = -15;
        static final int BELOW = -16;
        static final int ABOVE = -17;
        static final int AND = -18;
        static final int OR = -19;
        static final int NOT = -20;
        static final String LETTERS = "vdpmrn";
        private static final int BOUND = 1000000;
        private static final int CLAUSE_LIMIT = Tape.LIMIT / 3;
        private static final int DEEPEST = 64;

        private final int[] code = new int[Tape.LIMIT];
        private final int[] clauseAt = new int[CLAUSE_LIMIT];
        private final int[] sumAt = new int[CLAUSE_LIMIT];
        private int size;
        private int clauses;
        private final int[] values = new int[6];
        private final int[] stack = new int[DEEPEST];

        void clear() {
            size = 0;
            clauses = 0;
        }

        void copyFrom(Law other) {
            copyRow(other.code, code);
            copyRow(other.clauseAt, clauseAt);
            copyRow(other.sumAt, sumAt);
            size = other.size;
            clauses = other.clauses;
        }

        void addClause() {
            if (clauses < CLAUSE_LIMIT) {
                clauseAt[clauses] = size;
                sumAt[clauses] = size;
                clauses++;
            }
        }

        /** All of the latest CLAUSE so far is its CONDITION. */
        void endCondition() {
            if (clauses > 0) {
                sumAt[clauses - 1] = size;
            }
        }

        /** A number stands for itself, a letter is told by addLetter. */
        void add(int sign) {
            if (size < code.length) {
                code[size] = sign;
                size++;
            }
        }

        void addLetter(int letter) {
            add(-1 - letter);
        }

        int worth(int v, int d, int p, int m, int r, int n) {
            values[0] = v;
            values[1] = d;
            values[2] = p;
            values[3] = m;
            values[4] = r;
            values[5] = n;
            for (int k = 0; k < clauses; k++) {
                boolean holds = sumAt[k] == clauseAt[k] || work(clauseAt[k], sumAt[k]) != 0;
                if (holds) {
                    return work(sumAt[k], k + 1 < clauses ? clauseAt[k + 1] : size);
                }
            }
            return 0;
        }

        private int work(int from, int to) {
            int top = 0;
            for (int k = from; k < to; k++) {
                int sign = code[k];
                if (sign > PLUS) {
                    if (top < DEEPEST) {
                        stack[top] = sign >= 0 ? sign : letterValue(-1 - sign);
                        top++;
                    }
                } else if (sign == NOT) {
                    if (top > 0) {
                        stack[top - 1] = stack[top - 1] == 0 ? 1 : 0;
                    }
                } else if (top > 1) {
                    top--;
                    stack[top - 1] = joined(stack[top - 1], sign, stack[top]);
                }
            }
            return top > 0 ? stack[0] : 0;
        }

        private int letterValue(int letter) {
            return letter < values.length ? values[letter] : 0;
        }

        private static int joined(int a, int sign, int b) {
            long all;
            switch (sign) {
                case PLUS: all = (long) a + b; break;
                case MINUS: all = (long) a - b; break;
                case TIMES: all = (long) a * b; break;
                case BY: all = b == 0 ? 0 : a / b; break;
                case LIKE: all = a == b ? 1 : 0; break;
                case BELOW: all = a < b ? 1 : 0; break;
                case ABOVE: all = a > b ? 1 : 0; break;
                case AND: all = a & b; break;
                default: all = a | b; break;
            }
            return all > BOUND ? BOUND : all < -BOUND ? -BOUND : (int) all;
        }
    }

    /** Reads the TAPE as a LAW. */
    private static final class LawReader {
        private static final int DIGITS = 4;
        private static final int DEPTH_LIMIT = 6;

        final Law draft = new Law();
        private final Tape tape;

        LawReader(Tape tape) {
            this.tape = tape;
        }

        /** The FAULT, NONE: none, and the draft is the LAW. */
        int read() {
            tape.rewind();
            draft.clear();
            for (int k = 0; k <= Tape.LIMIT; k++) {
                if (!readClause()) {
                    return tape.whereWrong();
                }
                if (tape.look() == Tape.AT_END) {
                    return NONE;
                }
                if (!tape.take(';')) {
                    return tape.whereWrong();
                }
            }
            return tape.size();
        }

        private boolean readClause() {
            if (!tape.take('y') || !tape.take(':')) {
                return false;
            }
            draft.addClause();
            int sign = tape.look();
            if (sign == '!' || sign == '(') {
                return readCondition(0) && readSumBehindCondition();
            }
            if (!readSum(0)) {
                return false;
            }
            if (comparison(tape.look()) == 0) {
                return true;
            }
            return readComparison(0) && readMoreUnits(0) && readMoreTruths(0) && readSumBehindCondition();
        }

        private boolean readSumBehindCondition() {
            if (!tape.take('?')) {
                return false;
            }
            draft.endCondition();
            return readSum(0);
        }

        private boolean readCondition(int depth) {
            return readTruth(depth) && readMoreTruths(depth);
        }

        private boolean readMoreTruths(int depth) {
            for (int k = 0; k < Tape.LIMIT && tape.look() == '|'; k++) {
                tape.pass();
                if (!readTruth(depth)) {
                    return false;
                }
                draft.add(Law.OR);
            }
            return true;
        }

        private boolean readTruth(int depth) {
            return readUnit(depth) && readMoreUnits(depth);
        }

        private boolean readMoreUnits(int depth) {
            for (int k = 0; k < Tape.LIMIT && tape.look() == '&'; k++) {
                tape.pass();
                if (!readUnit(depth)) {
                    return false;
                }
                draft.add(Law.AND);
            }
            return true;
        }

        private boolean readUnit(int depth) {
            int sign = tape.look();
            if (sign != '!' && sign != '(') {
                return readSum(depth) && readComparison(depth);
            }
            if (depth >= DEPTH_LIMIT) {
                return tape.isWrong();
            }
            tape.pass();
            if (sign == '(') {
                return readCondition(depth + 1) && tape.take(')');
            }
            if (!readUnit(depth + 1)) {
                return false;
            }
            draft.add(Law.NOT);
            return true;
        }

        private boolean readComparison(int depth) {
            int comparison = comparison(tape.look());
            if (comparison == 0) {
                return tape.isWrong();
            }
            tape.pass();
            if (!readSum(depth)) {
                return false;
            }
            draft.add(comparison);
            return true;
        }

        private static int comparison(int sign) {
            switch (sign) {
                case '=': return Law.LIKE;
                case '<': return Law.BELOW;
                case '>': return Law.ABOVE;
                default: return 0;
            }
        }

        private boolean readSum(int depth) {
            if (!readTerm(depth)) {
                return false;
            }
            for (int k = 0; k < Tape.LIMIT; k++) {
                int sign = tape.look();
                if (sign != '+' && sign != '-') {
                    return true;
                }
                tape.pass();
                if (!readTerm(depth)) {
                    return false;
                }
                draft.add(sign == '+' ? Law.PLUS : Law.MINUS);
            }
            return true;
        }

        private boolean readTerm(int depth) {
            if (!readAtom(depth)) {
                return false;
            }
            for (int k = 0; k < Tape.LIMIT; k++) {
                int sign = tape.look();
                if (sign != '*' && sign != '/') {
                    return true;
                }
                tape.pass();
                if (!readAtom(depth)) {
                    return false;
                }
                draft.add(sign == '*' ? Law.TIMES : Law.BY);
            }
            return true;
        }

        private boolean readAtom(int depth) {
            int sign = tape.look();
            if (Tape.isDigit(sign)) {
                int number = tape.takeNumber(DIGITS);
                draft.add(Math.max(0, number));
                return number != NONE;
            }
            if (sign == '[' && depth < DEPTH_LIMIT) {
                tape.pass();
                return readSum(depth + 1) && tape.take(']');
            }
            int letter = placeOf(sign, Law.LETTERS);
            if (letter < 0) {
                return tape.isWrong();
            }
            tape.pass();
            draft.addLetter(letter);
            return true;
        }
    }

    /** All that ACTS change, but for the LOG, which goes by the DAY. */
    private static final class State {
        final int[] stands = new int[MEN_LIMIT];
        final int[] voices = new int[MEN_LIMIT];
        final int[] deeds = new int[MEN_LIMIT];
        final int[] glory = new int[MEN_LIMIT];
        final int[] depths = new int[FORD_LIMIT];
        int pace;
        int mud;
        int coins;
        int day;

        void begin(Told told) {
            for (int k = 0; k < MEN_LIMIT; k++) {
                stands[k] = told.men[k][Told.PLACE];
                voices[k] = told.men[k][Told.VOICE];
                deeds[k] = told.men[k][Told.DEEDS];
                glory[k] = 0;
            }
            for (int k = 0; k < FORD_LIMIT; k++) {
                depths[k] = told.fords[k][Told.DEPTH];
            }
            pace = told.rules[Told.PACE];
            mud = told.rules[Told.MUD];
            coins = told.rules[Told.COINS];
            day = 0;
        }

        void copyFrom(State other) {
            copyRow(other.stands, stands);
            copyRow(other.voices, voices);
            copyRow(other.deeds, deeds);
            copyRow(other.glory, glory);
            copyRow(other.depths, depths);
            pace = other.pace;
            mud = other.mud;
            coins = other.coins;
            day = other.day;
        }
    }

    /**
     * The LOG. A line's place goes by its DAY, so a DAY that is UNDONE takes its line along;
     * lines are kept longer than they are told, since one told no more comes back by UNDOING.
     */
    private static final class Diary {
        private static final int TOLD_LIMIT = 60;
        private static final int KEPT = TOLD_LIMIT + Acts.LIMIT;

        private final int[] words = new int[KEPT];
        private final int[] slips = new int[KEPT];
        private final int[] names = new int[KEPT];

        static int linesAt(int day) {
            return Math.min(TOLD_LIMIT, day);
        }

        void write(int day, int wordCount, int slipCount, int nameBits) {
            int k = Math.floorMod(day, KEPT);
            words[k] = wordCount;
            slips[k] = slipCount;
            names[k] = nameBits;
        }

        int readBack(int day, int i, int what) {
            int k = Math.floorMod(day - 1 - i, KEPT);
            switch (what) {
                case 0: return words[k];
                case 1: return slips[k];
                case 2: return names[k];
                default: return NONE;
            }
        }

        void copyFrom(Diary other) {
            copyRow(other.words, words);
            copyRow(other.slips, slips);
            copyRow(other.names, names);
        }
    }

    /** How all was ahead of each of the latest ACTS. */
    private static final class Acts {
        static final int LIMIT = 40;

        private final State[] before = new State[LIMIT];
        private int next;
        private int count;

        Acts() {
            for (int k = 0; k < LIMIT; k++) {
                before[k] = new State();
            }
        }

        int size() {
            return count;
        }

        void forget() {
            count = 0;
        }

        void keep(State now) {
            before[next].copyFrom(now);
            next = next + 1 < LIMIT ? next + 1 : 0;
            count = Math.min(LIMIT, count + 1);
        }

        void takeBack(State now) {
            if (count > 0) {
                next = next > 0 ? next - 1 : LIMIT - 1;
                count--;
                now.copyFrom(before[next]);
            }
        }
    }

    /** The road for one RIDE apart: who is heard where, and what is set down on the way. */
    private static final class Course {
        private static final int CLEAR = 2;
        private static final int ALL_PARTS = 1000000000;

        final int[] named = new int[MEN_LIMIT];
        int size;
        int slips;
        private final int[] written = new int[WORD_LIMIT];
        private final int[] writtenAt = new int[WORD_LIMIT];
        private final int[] stands = new int[MEN_LIMIT];
        private final int[] voices = new int[MEN_LIMIT];
        private final int[] ranks = new int[MEN_LIMIT];
        private final boolean[] wet = new boolean[ROAD_LIMIT + 1];
        private final int[][] loud = new int[MEN_LIMIT][ROAD_LIMIT + 1];
        private final long[] parts = new long[WORD_LIMIT + 1];
        private int men;
        private int length;
        private int pace = 1;
        private int mud;
        private Law law;

        void setOut(Told told, State state, Law lawThatHolds) {
            men = told.menCount;
            length = Math.min(ROAD_LIMIT, told.rules[Told.LENGTH]);
            pace = state.pace;
            mud = state.mud;
            law = lawThatHolds;
            copyRow(state.stands, stands);
            copyRow(state.voices, voices);
            for (int k = 0; k < men; k++) {
                ranks[k] = told.men[k][Told.RANK];
            }
            for (int step = 0; step <= ROAD_LIMIT; step++) {
                wet[step] = false;
            }
            for (int k = 0; k < told.fordCount; k++) {
                int step = told.fords[k][Told.PLACE];
                if (step >= 0 && step <= ROAD_LIMIT) {
                    wet[step] = state.depths[k] > 0;
                }
            }
        }

        /** HEARD; the MAN and the STEP are there. */
        int loudness(int man, int step) {
            if (wet[step]) {
                return 0;
            }
            int far = Math.abs(stands[man] - step);
            int worth = law == null
                ? voices[man] - far - pace / 2 + ranks[man] / 3
                : law.worth(voices[man], far, pace, mud, ranks[man], step);
            return Math.max(0, Math.min(NINE, worth));
        }

        /** MEN from one to ahead of another are heard at each STEP of this PACE. */
        void hear(int from, int to) {
            for (int man = from; man < to; man++) {
                for (int step = 0; step <= length; step += Math.max(1, pace)) {
                    loud[man][step] = loudness(man, step);
                }
            }
        }

        void hearAt(int step) {
            for (int man = 0; man < men; man++) {
                loud[man][step] = loudness(man, step);
            }
        }

        void place(int man, int at) {
            stands[man] = at;
            hear(man, man + 1);
        }

        void speak(int man, int voice) {
            voices[man] = voice;
            hear(man, man + 1);
        }

        void ridePace(int other) {
            pace = other;
            hear(0, men);
        }

        int loudestAt(int step) {
            int loudest = NONE;
            int most = 0;
            for (int man = 0; man < men; man++) {
                if (loud[man][step] > most) {
                    most = loud[man][step];
                    loudest = man;
                }
            }
            return loudest;
        }

        private boolean isSlip(int loudest, int step) {
            return mud != 0 && loud[loudest][step] <= CLEAR;
        }

        private int nextMan(int man) {
            return man + 1 < men ? man + 1 : 0;
        }

        void go(int room) {
            Arrays.fill(named, 0);
            size = 0;
            slips = 0;
            int limit = Math.min(room, WORD_LIMIT);
            for (int step = 0; step <= length && size < limit; step += Math.max(1, pace)) {
                int loudest = loudestAt(step);
                if (loudest == NONE) {
                    continue;
                }
                int word = loudest;
                if (isSlip(loudest, step)) {
                    slips++;
                    word = nextMan(loudest);
                }
                written[size] = word;
                writtenAt[size] = step;
                size++;
                named[word]++;
            }
        }

        /** The i-th WORD, NONE: there is none. */
        int wordAt(int i) {
            return i >= 0 && i < size ? written[i] : NONE;
        }

        int namedBits() {
            int bits = 0;
            for (int man = 0; man < men; man++) {
                if (named[man] > 0) {
                    bits |= 1 << man;
                }
            }
            return bits;
        }

        int lastStep(int room) {
            return size > 0 && size >= room ? writtenAt[size - 1] : NONE;
        }

        /** How many WORDS it takes until none is new any more. */
        int roomForAll() {
            int bits = 0;
            int needed = 1;
            for (int k = 0; k < size; k++) {
                int bit = 1 << written[k];
                if ((bits & bit) == 0) {
                    needed = k + 1;
                }
                bits |= bit;
            }
            return needed;
        }

        int drySteps() {
            int dry = 0;
            for (int step = 0; step <= length; step++) {
                if (!wet[step]) {
                    dry++;
                }
            }
            return dry;
        }

        /** Parts that do not name him yet are kept by how many WORDS they have. */
        int partsNaming(int man, int chance, int room) {
            Arrays.fill(parts, 0);
            parts[0] = ALL_PARTS;
            int limit = Math.min(room, WORD_LIMIT);
            long naming = 0;
            for (int step = 0; step <= length; step += Math.max(1, pace)) {
                int loudest = loudestAt(step);
                if (loudest == NONE) {
                    continue;
                }
                boolean names = man == (isSlip(loudest, step) ? nextMan(loudest) : loudest);
                // From the fullest down, so that what moves on is not met again at this STEP.
                for (int k = limit - 1; k >= 0; k--) {
                    long silent = parts[k] * chance / 100;
                    long spoken = parts[k] - silent;
                    parts[k] = silent;
                    if (names) {
                        naming += spoken;
                    } else {
                        parts[k + 1] += spoken;
                    }
                }
            }
            return (int) naming;
        }
    }

    /** What was SEEN, and by which tellings of the RIDE all of it is so. */
    private static final class Sightings {
        static final int LIMIT = 10;
        static final int UNMOVED = 9;

        private final int[] at = new int[LIMIT];
        private final int[] men = new int[LIMIT];
        private final boolean[] are = new boolean[LIMIT];
        private int count;
        private final int[] fits = new int[MEN_LIMIT + 1];
        private final int[][] tellings = new int[MEN_LIMIT + 1][WORD_LIMIT];
        private int fitting;

        int size() {
            return count;
        }

        void forget() {
            count = 0;
        }

        void add(int i, int man, boolean is) {
            if (count < LIMIT) {
                at[count] = i;
                men[count] = man;
                are[count] = is;
                count++;
            }
        }

        void weighAnew() {
            fitting = 0;
        }

        /** Somebody's telling, which is what the course has just written. */
        void keepIfFit(int who, Course course) {
            for (int k = 0; k < count; k++) {
                if ((course.wordAt(at[k]) == men[k]) != are[k]) {
                    return;
                }
            }
            if (fitting < fits.length) {
                fits[fitting] = who;
                for (int i = 0; i < WORD_LIMIT; i++) {
                    tellings[fitting][i] = course.wordAt(i);
                }
                fitting++;
            }
        }

        int fitCount() {
            return fitting;
        }

        int fitAt(int i) {
            return i >= 0 && i < fitting ? fits[i] : NONE;
        }

        int wordToLookAt() {
            int word = NONE;
            int fewest = fitting + 1;
            for (int i = 0; i < WORD_LIMIT && fitting > 0; i++) {
                int most = mostAlike(i);
                if (most < fewest) {
                    fewest = most;
                    word = i;
                }
            }
            return word;
        }

        /** How many of the fitting tell the same of a WORD, at the most. */
        private int mostAlike(int i) {
            int most = 0;
            for (int k = 0; k < fitting; k++) {
                int alike = 0;
                for (int j = 0; j < fitting; j++) {
                    if (tellings[j][i] == tellings[k][i]) {
                        alike++;
                    }
                }
                most = Math.max(most, alike);
            }
            return most;
        }
    }
}

/** Rooms in salt: what ../shared/DOC.md promises, in the part of Java that ../shared/LANGUAGE.md leaves. */
public final class SaltRooms {
    private static final int LEVELS = 30;
    private static final int MOST_CAVERNS = 5;
    private static final int MOST_BYTES = 60;
    private static final int MOST_SIZE = 99999;
    private static final int MOST_STOCK = 99999;
    private static final int MOST_PUSH = 99;
    private static final int MOST_WATER = 99;
    private static final int MOST_YEAR = 60;
    private static final int OWNERS = 6;
    private static final int MOST_LOTS = 30;
    private static final int MARKS = 1000;
    private static final int MOST_READINGS = 40;
    private static final int MOST_TESTS = 6;
    private static final int DAYS = 12;
    private static final int MOST_CHOICES = 5;
    private static final int MOST_STEPS = 5;
    private static final int MOST_ACTS = 200;

    // Kinds of BEDS; 1 .. 9 between them are tenths that stay.
    private static final int SALT = 0;
    private static final int HARD = 10;

    // STATES of a CAVERN.
    private static final int PLANNED = 0;
    private static final int WASHED = 1;
    private static final int KEPT = 2;
    private static final int SHUT = 3;
    private static final int GIVEN_UP = 4;

    // What can be set, and its place in settings.
    private static final int RATE_LOW = 0;
    private static final int RATE_HIGH = 1;
    private static final int PILLARS = 2;
    private static final int OVER = 3;

    // REFUSALS.
    private static final int NOBODY = -1;
    private static final int OTHER = -2;
    private static final int STATE = -3;
    private static final int BELOW = -4;
    private static final int ROOM = -6;
    private static final int BROKEN = -7;

    private static final int NONE = -9;
    private static final int FAULT_BASE = -20;
    // Where an answer may be below 0, REFUSALS are this much less.
    private static final int FAR = 1000000000;
    // Stands above every number that a search for the least can meet.
    private static final int ENDLESS = 2000000000;

    private final BedText text = new BedText();
    private final Rock rock = new Rock();
    private final Cavern[] caverns = new Cavern[MOST_CAVERNS];
    private int cavernCount;
    private int year;
    private final int[] settings = {2, 5, 10, 5};
    private int ownerNow;
    private final int[] drawnByOwner = new int[OWNERS];
    private int spreadNow = 100;
    private final Readings readings = new Readings();
    private final Winter winter = new Winter();
    private final Planner planner = new Planner();
    private final Acts acts = new Acts();
    private final int[] refusals = new int[8];
    // Rows that calls try things on, so that none makes its own.
    private final Shape trial = new Shape();
    private final int[] limits = new int[LEVELS];

    public SaltRooms() {
        for (int i = 0; i < MOST_CAVERNS; i++) {
            caverns[i] = new Cavern();
        }
    }

    // ---- I. LEVELS, BEDS, CAVERNS ----

    public int feed(int n, long bytes) {
        if (n < 1) {
            return refused(BELOW);
        }
        if (n > 8 || n > text.free()) {
            return refused(ROOM);
        }
        text.take(n, bytes);
        return text.length;
    }

    public int beds() {
        if (cavernCount > 0) {
            return refused(STATE);
        }
        int fault = text.tell(rock.kinds);
        return fault < 0 ? LEVELS : FAULT_BASE - fault;
    }

    public int bed(int level) {
        if (!isLevel(level)) {
            return refused(NOBODY);
        }
        return rock.kinds[level];
    }

    public int cavern(int place, int a, int b) {
        if (!isLevel(a) || !isLevel(b) || b < a) {
            return refused(NOBODY);
        }
        int fault = outside(place, 0, MARKS - 1);
        if (fault != 0) {
            return refused(fault);
        }
        if (cavernCount >= MOST_CAVERNS) {
            return refused(ROOM);
        }
        caverns[cavernCount].begin(place, a, b);
        cavernCount++;
        acts.forget();
        return cavernCount - 1;
    }

    public int string(int cavern, int water, int brine, int oil) {
        Cavern it = told(cavern);
        if (it == null || !it.shape.isOpen(water) || !it.shape.isOpen(brine) || !it.shape.isOpen(oil)) {
            return refused(NOBODY);
        }
        if (!it.isWashable()) {
            return refused(STATE);
        }
        acts.keep(cavern, it, drawnByOwner);
        it.shape.hang(water, brine, oil);
        return 1;
    }

    // ---- II. STEPS ----

    public int law(int k, int v) {
        if (k < 0 || k >= rock.laws.length) {
            return refused(NOBODY);
        }
        int fault = outside(v, 0, 99);
        if (fault != 0) {
            return refused(fault);
        }
        int was = rock.laws[k];
        rock.laws[k] = v;
        return was;
    }

    public int step(int cavern, int n) {
        Cavern it = told(cavern);
        if (it == null) {
            return refused(NOBODY);
        }
        if (!it.isWashable() || it.cut) {
            return refused(STATE);
        }
        int fault = outside(n, 1, MOST_WATER);
        if (fault != 0) {
            return refused(fault);
        }
        findLimits(cavern, it);
        trial.copyFrom(it.shape);
        int out = trial.wash(n, rock);
        if (!trial.isWithin(limits)) {
            return refused(BROKEN);
        }
        acts.keep(cavern, it, drawnByOwner);
        it.shape.copyFrom(trial);
        it.state = WASHED;
        return out;
    }

    public int half(int cavern, int n) {
        Cavern it = told(cavern);
        if (it == null) {
            return refused(NOBODY);
        }
        if (!it.isWashable() || it.cut || n % 2 != 0) {
            return refused(STATE);
        }
        int fault = outside(n, 1, MOST_WATER);
        if (fault != 0) {
            return refused(fault);
        }
        trial.copyFrom(it.shape);
        trial.wash(n, rock);
        int once = trial.allSizes();
        trial.copyFrom(it.shape);
        trial.wash(n / 2, rock);
        trial.wash(n / 2, rock);
        return Math.abs(once - trial.allSizes());
    }

    public int ring(int cavern, int level, int what) {
        Cavern it = told(cavern);
        if (it == null || !it.shape.hasLevel(level)) {
            return refused(NOBODY);
        }
        switch (what) {
            case 0:
                return it.shape.sizeAt(level);
            case 1:
                return it.shape.reachAt(level);
            case 2:
                return it.shape.isOpen(level) ? 0 : 1;
            case 3:
                return it.isShelf(level, settings[OVER]) ? 1 : 0;
            default:
                return refused(OTHER);
        }
    }

    public int of(int cavern, int what) {
        Cavern it = told(cavern);
        if (it == null) {
            return refused(NOBODY);
        }
        if (what < 0 || what > 14) {
            return refused(OTHER);
        }
        return what <= 4 || what >= 12 ? it.shapeTells(what) : it.stockTells(what);
    }

    // ---- III. YEARS ----

    public int years(int n) {
        if (n < 1) {
            return refused(BELOW);
        }
        if (n > 20 || n > MOST_YEAR - year) {
            return refused(ROOM);
        }
        for (int i = 0; i < n; i++) {
            passYear();
        }
        acts.forget();
        return year;
    }

    public int set(int what, int v) {
        if (what < RATE_LOW || what > OVER) {
            return refused(OTHER);
        }
        int fault = outside(v, what == OVER ? 1 : 0, what == PILLARS ? 999 : 99);
        if (fault != 0) {
            return refused(fault);
        }
        if ((what == RATE_LOW && v > settings[RATE_HIGH]) || (what == RATE_HIGH && v < settings[RATE_LOW])) {
            return refused(STATE);
        }
        int was = settings[what];
        settings[what] = v;
        return was;
    }

    public int between(int cavern, int level, int n, boolean low) {
        Cavern it = told(cavern);
        if (it == null || !it.shape.isOpen(level)) {
            return refused(NOBODY);
        }
        int fault = outside(n, 0, MOST_YEAR);
        if (fault != 0) {
            return refused(fault);
        }
        int rate = settings[low ? RATE_LOW : RATE_HIGH];
        int push = it.pushNow();
        int size = it.shape.sizeAt(level);
        for (int i = 0; i < n; i++) {
            size -= creepOf(size, rate, level, push);
        }
        return size;
    }

    public int fill(int cavern, boolean gas, int n, boolean in) {
        Cavern it = told(cavern);
        if (it == null) {
            return refused(NOBODY);
        }
        int there = gas ? it.stock.gas : it.stock.oil;
        if (it.state >= SHUT || (!in && n > there)) {
            return refused(STATE);
        }
        int fault = outside(n, 1, MOST_STOCK);
        if (fault != 0) {
            return refused(fault);
        }
        if (in && !it.takes(gas, n, ownerNow)) {
            return refused(ROOM);
        }
        int after = in ? there + n : there - n;
        if (!it.marksHold(gas ? after : it.stock.gas, gas ? it.stock.oil : after, in)) {
            return refused(BROKEN);
        }
        acts.keep(cavern, it, drawnByOwner);
        it.state = KEPT;
        if (gas) {
            it.stock.gas = after;
        } else if (in) {
            it.stock.addOil(ownerNow, n);
        } else {
            it.stock.drawOil(n, drawnByOwner);
        }
        return after;
    }

    public int owner(int owner) {
        if (owner < 0 || owner >= OWNERS) {
            return refused(NOBODY);
        }
        int was = ownerNow;
        ownerNow = owner;
        return was;
    }

    public int has(int owner, int cavern, boolean drawn) {
        if (owner < 0 || owner >= OWNERS) {
            return refused(NOBODY);
        }
        if (drawn) {
            return drawnByOwner[owner];
        }
        if (cavern == -1) {
            int sum = 0;
            for (int i = 0; i < cavernCount; i++) {
                sum += caverns[i].stock.oilOf(owner);
            }
            return sum;
        }
        Cavern it = told(cavern);
        if (it == null) {
            return refused(NOBODY);
        }
        return it.stock.oilOf(owner);
    }

    public int spread(int v) {
        int fault = outside(v, 0, 999);
        if (fault != 0) {
            return refused(fault);
        }
        int was = spreadNow;
        spreadNow = v;
        return was;
    }

    public int sinks(int mark) {
        if (mark < -1 || mark >= MARKS) {
            return refused(NOBODY);
        }
        return mark == -1 ? worstMark() : sinkingAt(mark);
    }

    public int close(int cavern) {
        Cavern it = told(cavern);
        if (it == null) {
            return refused(NOBODY);
        }
        if (it.state >= SHUT) {
            return refused(STATE);
        }
        it.state = SHUT;
        acts.forget();
        return 1;
    }

    public int giveUp(int cavern) {
        Cavern it = told(cavern);
        if (it == null) {
            return refused(NOBODY);
        }
        if (it.state == GIVEN_UP) {
            return refused(STATE);
        }
        it.state = GIVEN_UP;
        acts.forget();
        return 1;
    }

    public int breach(int cavern, boolean must) {
        Cavern it = told(cavern);
        if (it == null) {
            return refused(NOBODY);
        }
        if (it.state != SHUT) {
            return refused(STATE);
        }
        int rate = settings[must ? RATE_LOW : RATE_HIGH];
        trial.copyFrom(it.shape);
        for (int i = 1; i <= 60; i++) {
            trial.creep(rate, it.pushIn(trial));
            if (it.pushIn(trial) > it.mostPush()) {
                return year + i;
            }
        }
        return NONE;
    }

    // ---- IV. WALLS, SHELVES, ECHOES ----

    public int wall(int a, int b, int level) {
        Cavern one = told(a);
        Cavern other = told(b);
        if (one == null || other == null || a == b
                || !one.shape.hasLevel(level) || !other.shape.hasLevel(level)) {
            return refused(NOBODY) - FAR;
        }
        return one.gapTo(other, level);
    }

    public int near(int cavern, int what) {
        Cavern it = told(cavern);
        if (it == null) {
            return refused(NOBODY);
        }
        if (what != 0 && what != 1) {
            return refused(OTHER);
        }
        int least = ENDLESS;
        int answer = NONE;
        for (int level = it.shape.roof; level <= it.shape.bottom; level++) {
            for (int i = 0; i < cavernCount; i++) {
                if (i == cavern || !caverns[i].shape.hasLevel(level)) {
                    continue;
                }
                int gap = it.gapTo(caverns[i], level);
                if (gap < least) {
                    least = gap;
                    answer = what == 0 ? level : i;
                }
            }
        }
        return answer;
    }

    public int fall(int cavern, int level) {
        Cavern it = told(cavern);
        if (it == null || !it.shape.hasLevel(level)) {
            return refused(NOBODY);
        }
        if (it.state == GIVEN_UP || !it.isShelf(level, settings[OVER])) {
            return refused(STATE);
        }
        int loose = it.letFall(level, settings[OVER]);
        acts.forget();
        return loose;
    }

    public int mend(int cavern) {
        Cavern it = told(cavern);
        if (it == null) {
            return refused(NOBODY);
        }
        if (!it.cut) {
            return refused(STATE);
        }
        it.cut = false;
        return 1;
    }

    public int hidden(int cavern, int tools) {
        Cavern it = told(cavern);
        if (it == null) {
            return refused(NOBODY);
        }
        it.measure();
        int bits = 0;
        for (int level = it.shape.roof; level <= it.shape.bottom; level++) {
            if (!isSeenFromAny(it, tools, level)) {
                bits |= 1 << level;
            }
        }
        return bits;
    }

    public int reading(int cavern, int level, int reach, int doubt) {
        Cavern it = told(cavern);
        if (it == null || !it.shape.hasLevel(level)) {
            return refused(NOBODY);
        }
        if (reach < 0 || doubt < 0) {
            return refused(BELOW);
        }
        if (reach > 999 || doubt > 99 || readings.count >= MOST_READINGS) {
            return refused(ROOM);
        }
        readings.add(cavern, level, reach, doubt);
        return readings.count - 1;
    }

    public int bounds(int cavern, int level, int what) {
        Cavern it = told(cavern);
        if (it == null || !it.shape.hasLevel(level)) {
            return refused(NOBODY) - FAR;
        }
        if (what != 0 && what != 1) {
            return refused(OTHER) - FAR;
        }
        if (!readings.findBounds(cavern, level, readings.count)) {
            return NONE;
        }
        return what == 0 ? readings.lower : readings.upper;
    }

    public int quarrel(int cavern) {
        if (told(cavern) == null) {
            return refused(NOBODY);
        }
        return readings.firstQuarrel(cavern);
    }

    public int nextEcho(int cavern, int w) {
        Cavern it = told(cavern);
        if (it == null) {
            return refused(NOBODY);
        }
        int fault = outside(w, 0, 999);
        if (fault != 0) {
            return refused(fault);
        }
        it.measure();
        int wanted = ringsInDoubt(cavern, it, w);
        int most = 0;
        int answer = NONE;
        for (int tool = it.shape.roof; tool <= it.shape.bottom; tool++) {
            int seen = it.countSeen(tool, wanted);
            if (seen > most) {
                most = seen;
                answer = tool;
            }
        }
        return answer;
    }

    // ---- V. TESTS, A WINTER, A PLAN ----

    public int test(int cavern, int days, int fell, int doubt, int a, int b) {
        Cavern it = told(cavern);
        if (it == null) {
            return refused(NOBODY);
        }
        if (days < 1 || fell < 0 || doubt < 0 || a < -99 || b < -99 || b < a) {
            return refused(BELOW);
        }
        if (days > 99 || fell > 9999 || doubt > 99 || a > 99 || b > 99 || it.tests.count >= MOST_TESTS) {
            return refused(ROOM);
        }
        it.tests.add(days, fell, doubt, a, b);
        return it.tests.count;
    }

    public int leak(int cavern, int what) {
        Cavern it = told(cavern);
        if (it == null) {
            return refused(NOBODY);
        }
        if (what != 0 && what != 1) {
            return refused(OTHER);
        }
        return it.tests.leakBound(what == 0);
    }

    public int howLong(int one, int other, int doubt) {
        if (one < 0 || other < 0 || doubt < 0) {
            return refused(BELOW);
        }
        if (one > 999 || other > 999 || doubt > 9999) {
            return refused(ROOM);
        }
        int apart = Math.abs(one - other);
        for (int days = 1; days <= 999; days++) {
            if (days * apart > 2 * doubt) {
                return days;
            }
        }
        return NONE;
    }

    public int need(int day, int v) {
        if (day < 0 || day >= DAYS) {
            return refused(NOBODY);
        }
        int fault = outside(v, 0, 999);
        if (fault != 0) {
            return refused(fault);
        }
        int was = winter.needs[day];
        winter.needs[day] = v;
        return was;
    }

    public int gives(int cavern, int v) {
        Cavern it = told(cavern);
        if (it == null) {
            return refused(NOBODY);
        }
        int fault = outside(v, 0, 999);
        if (fault != 0) {
            return refused(fault);
        }
        int was = it.aDay;
        it.aDay = v;
        return was;
    }

    public int given(int day) {
        if (day < -1 || day >= DAYS) {
            return refused(NOBODY);
        }
        int upTo = winter.mostBy(caverns, cavernCount, day == -1 ? DAYS - 1 : day);
        return day <= 0 ? upTo : upTo - winter.mostBy(caverns, cavernCount, day - 1);
    }

    public int proof(int day) {
        if (day < 0 || day >= DAYS) {
            return refused(NOBODY);
        }
        winter.mostBy(caverns, cavernCount, day);
        return winter.leastSet;
    }

    public int aim(int level, int v) {
        if (!isLevel(level)) {
            return refused(NOBODY);
        }
        int fault = outside(v, 0, MOST_SIZE);
        if (fault != 0) {
            return refused(fault);
        }
        int was = planner.aims[level];
        planner.aims[level] = v;
        return was;
    }

    public int choice(int water, int brine, int n) {
        if (!isLevel(water) || !isLevel(brine)) {
            return refused(NOBODY);
        }
        int fault = outside(n, 1, MOST_WATER);
        if (fault != 0) {
            return refused(fault);
        }
        if (planner.choices >= MOST_CHOICES) {
            return refused(ROOM);
        }
        planner.add(water, brine, n);
        return planner.choices;
    }

    public int noChoices() {
        int were = planner.choices;
        planner.choices = 0;
        return were;
    }

    public int plan(int cavern, int m, int what) {
        Cavern it = told(cavern);
        if (it == null) {
            return refused(NOBODY);
        }
        if (what < 0 || what > MOST_STEPS) {
            return refused(OTHER);
        }
        if (!it.isWashable() || it.cut) {
            return refused(STATE);
        }
        int fault = outside(m, 1, MOST_STEPS);
        if (fault != 0) {
            return refused(fault);
        }
        findLimits(cavern, it);
        planner.seek(it.shape, m, rock, limits);
        return what == 0 ? planner.leastSum : planner.bestAt(what - 1, m);
    }

    // ---- VI. ACTS, REFUSALS ----

    public int undo() {
        Act last = acts.takeLast();
        Cavern it = last == null ? null : told(last.number);
        if (it == null) {
            return refused(STATE);
        }
        last.putBack(it, drawnByOwner);
        return 1;
    }

    public int count(int what) {
        switch (what) {
            case 0:
                return year;
            case 1:
                return cavernCount;
            case 2:
                return text.length;
            case 3:
                return planner.choices;
            case 4:
                return acts.count;
            case 5:
                return allOut();
            case 6:
                return allFallen();
            case 7:
                return readings.count;
            default:
                return what >= 11 && what <= 17 ? refusals[what - 10] : NONE;
        }
    }

    // ---- helpers ----

    private int refused(int number) {
        int k = -number;
        if (k >= 0 && k < refusals.length) {
            refusals[k]++;
        }
        return number;
    }

    /** Answers the REFUSAL of a number that must be from least to most, 0 if there is none. */
    private static int outside(int v, int least, int most) {
        if (v < least) {
            return BELOW;
        }
        return v > most ? ROOM : 0;
    }

    private static boolean isLevel(int level) {
        return level >= 0 && level < LEVELS;
    }

    private Cavern told(int cavern) {
        return cavern >= 0 && cavern < cavernCount && cavern < caverns.length ? caverns[cavern] : null;
    }

    /** How much a RING loses by CREEP in a YEAR. */
    private static int creepOf(int size, int rate, int level, int push) {
        int loss = size * rate * Math.max(level + 10 - push, 0) / 10000;
        return Math.min(loss, size - 1);
    }

    private static int rootOf(int size) {
        int root = 0;
        for (int bit = 256; bit > 0; bit /= 2) {
            int more = root + bit;
            if (more * more <= size) {
                root = more;
            }
        }
        return root;
    }

    /** For each LEVEL the greatest SIZE with which no wall of the CAVERN is below PILLARS. */
    private void findLimits(int cavern, Cavern it) {
        for (int level = 0; level < LEVELS; level++) {
            int widest = ENDLESS;
            for (int i = 0; i < cavernCount; i++) {
                Shape other = caverns[i].shape;
                if (i != cavern && other.hasLevel(level)) {
                    int apart = Math.abs(it.place - caverns[i].place);
                    widest = Math.min(widest, apart - other.reachAt(level) - settings[PILLARS]);
                }
            }
            limits[level] = widest == ENDLESS ? ENDLESS : widest < 0 ? 0 : (widest + 1) * (widest + 1) - 1;
        }
    }

    private void passYear() {
        year++;
        for (int i = 0; i < cavernCount; i++) {
            Cavern it = caverns[i];
            if (it.state != GIVEN_UP) {
                it.lost += it.shape.creep(settings[RATE_LOW], it.pushNow());
            }
        }
    }

    private int sinkingAt(int mark) {
        long sum = 0;
        for (int i = 0; i < cavernCount; i++) {
            int weight = Math.max(spreadNow - Math.abs(caverns[i].place - mark), 0);
            sum += (long) caverns[i].lost * weight / 1000;
        }
        return (int) sum;
    }

    private int worstMark() {
        int worst = 0;
        int most = -1;
        for (int mark = 0; mark < MARKS; mark++) {
            int sinking = sinkingAt(mark);
            if (sinking > most) {
                most = sinking;
                worst = mark;
            }
        }
        return worst;
    }

    private static boolean isSeenFromAny(Cavern it, int tools, int level) {
        for (int tool = it.shape.roof; tool <= it.shape.bottom; tool++) {
            if ((tools >> tool & 1) == 1 && it.isSeen(tool, level)) {
                return true;
            }
        }
        return false;
    }

    /** The RINGS, as bits, that have no READING or BOUNDS more than w apart. */
    private int ringsInDoubt(int cavern, Cavern it, int w) {
        int bits = 0;
        for (int level = it.shape.roof; level <= it.shape.bottom; level++) {
            if (!readings.findBounds(cavern, level, readings.count) || readings.upper - readings.lower > w) {
                bits |= 1 << level;
            }
        }
        return bits;
    }

    private int allOut() {
        int sum = 0;
        for (int i = 0; i < cavernCount; i++) {
            sum += caverns[i].shape.out;
        }
        return sum;
    }

    private int allFallen() {
        int sum = 0;
        for (int i = 0; i < cavernCount; i++) {
            sum += caverns[i].shape.fallen;
        }
        return sum;
    }

    /** The TEXT of BEDS and what reads it. */
    private static final class BedText {
        private static final int DEEPEST = 3;

        private final int[] bytes = new int[MOST_BYTES];
        private int length;
        private final int[] kinds = new int[LEVELS];
        private int toldLevels;
        private final int[] starts = new int[DEEPEST];
        private int depth;
        private int at;
        private int fault;

        private int free() {
            return MOST_BYTES - length;
        }

        private void take(int n, long more) {
            for (int i = 0; i < n && length < bytes.length; i++) {
                bytes[length] = (int) (more >> 8 * i & 255);
                length++;
            }
        }

        /** Puts what the TEXT tells into the BEDS and empties it: -1, or the place of its FAULT. */
        private int tell(int[] into) {
            read();
            if (fault < 0) {
                System.arraycopy(kinds, 0, into, 0, Math.min(LEVELS, into.length));
            }
            length = 0;
            return fault;
        }

        private void read() {
            at = 0;
            toldLevels = 0;
            depth = 0;
            fault = -1;
            for (int turn = 0; turn < MOST_BYTES && at < length && fault < 0; turn++) {
                readPart();
            }
            if (fault < 0 && (depth > 0 || toldLevels < LEVELS)) {
                fault = length;
            }
        }

        private void readPart() {
            switch (byteAt(at)) {
                case 's':
                    at++;
                    readBeds(SALT);
                    break;
                case 'h':
                    at++;
                    readBeds(HARD);
                    break;
                case 'd':
                    at++;
                    readDirty();
                    break;
                case '(':
                    openBracket();
                    break;
                case ')':
                    closeBracket();
                    break;
                default:
                    fault = at;
            }
        }

        private void readDirty() {
            int tenths = digitAt(at);
            if (tenths < 1) {
                fault = at;
                return;
            }
            at++;
            readBeds(tenths);
        }

        private void readBeds(int kind) {
            int many = readCount(toldLevels, 1);
            for (int i = 0; i < many && toldLevels < LEVELS; i++) {
                kinds[toldLevels] = kind;
                toldLevels++;
            }
        }

        private void openBracket() {
            if (depth >= DEEPEST) {
                fault = at;
                return;
            }
            starts[depth] = toldLevels;
            depth++;
            at++;
        }

        private void closeBracket() {
            int start = depth < 1 ? toldLevels : starts[depth - 1];
            int unit = toldLevels - start;
            // Every ITEM tells a LEVEL at least: none told since the bracket opened, no ITEM in it.
            if (unit < 1) {
                fault = at;
                return;
            }
            at++;
            depth--;
            int many = readCount(start, unit);
            for (int i = 0; i < unit * (many - 1) && toldLevels < LEVELS; i++) {
                kinds[toldLevels] = kinds[start + i % unit];
                toldLevels++;
            }
        }

        /** Reads a count of what tells unit LEVELS each time, behind so many others: 0 if it is a FAULT. */
        private int readCount(int before, int unit) {
            int place = at;
            int many = digitAt(at);
            if (many < 1) {
                fault = place;
                return 0;
            }
            at++;
            int second = digitAt(at);
            if (second >= 0) {
                many = 10 * many + second;
                at++;
            }
            if (before + unit * many > LEVELS) {
                fault = place;
                return 0;
            }
            return many;
        }

        private int byteAt(int place) {
            return place >= 0 && place < length ? bytes[place] : -1;
        }

        private int digitAt(int place) {
            int sign = byteAt(place);
            return sign >= '0' && sign <= '9' ? sign - '0' : -1;
        }
    }

    /** What water meets: the BEDS and the LAWS. */
    private static final class Rock {
        private final int[] kinds = new int[LEVELS];
        private final int[] laws = {90, 80, 70, 60, 50, 40, 30, 20, 10, 0};

        private int tenthsThatStay(int level) {
            int kind = kindAt(level);
            return kind == HARD ? 0 : kind;
        }

        private int lawOf(int strength) {
            int k = strength / 10;
            return k >= 0 && k < laws.length ? laws[k] : 0;
        }

        private int kindAt(int level) {
            return isLevel(level) ? kinds[level] : SALT;
        }
    }

    /** The RINGS of a CAVERN, THE FLOOR and the LEVELS of the STRING: all that washing and creeping change. */
    private static final class Shape {
        private final int[] sizes = new int[LEVELS];
        private int roof;
        private int bottom = -1;
        // The lowest RING that is not FULL; all below it are.
        private int lowest = -1;
        private int floor;
        private int out;
        private int fallen;
        private int water;
        private int brine;
        private int shield;

        private void begin(int a, int b) {
            roof = a;
            bottom = b;
            lowest = b;
            for (int level = 0; level < LEVELS; level++) {
                sizes[level] = hasLevel(level) ? 1 : 0;
            }
            floor = 0;
            out = 0;
            fallen = 0;
            hang(b, a, a);
        }

        private void copyFrom(Shape other) {
            System.arraycopy(other.sizes, 0, sizes, 0, LEVELS);
            roof = other.roof;
            bottom = other.bottom;
            lowest = other.lowest;
            floor = other.floor;
            out = other.out;
            fallen = other.fallen;
            hang(other.water, other.brine, other.shield);
        }

        private void hang(int waterLevel, int brineLevel, int shieldLevel) {
            water = waterLevel;
            brine = brineLevel;
            shield = shieldLevel;
        }

        private boolean hasLevel(int level) {
            return level >= roof && level <= bottom && isLevel(level);
        }

        private boolean isOpen(int level) {
            return hasLevel(level) && level <= lowest;
        }

        private int sizeAt(int level) {
            return isLevel(level) ? sizes[level] : 0;
        }

        private int reachAt(int level) {
            return rootOf(sizeAt(level));
        }

        /** A STEP: answers what is OUT. */
        private int wash(int n, Rock rock) {
            int outNow = 0;
            int strength = 0;
            int way = water <= brine ? 1 : -1;
            int many = Math.abs(brine - water) + 1;
            for (int i = 0; i < many; i++) {
                int level = water + way * i;
                if (!isOpen(level) || level < shield) {
                    continue;
                }
                int loss = lossAt(level, n * rock.lawOf(strength) / 100, rock);
                int stays = loss * rock.tenthsThatStay(level) / 10;
                sizes[level] += loss;
                drop(stays);
                outNow += loss - stays;
                strength = strengthOf(outNow, n);
            }
            out += outNow;
            settle();
            return outNow;
        }

        private int lossAt(int level, int loss, Rock rock) {
            if (rock.kindAt(level) == HARD) {
                return 0;
            }
            int w = level == roof ? loss / 2 : loss;
            return Math.max(Math.min(w, MOST_SIZE - sizeAt(level)), 0);
        }

        private static int strengthOf(int outNow, int n) {
            int all = outNow + 4 * n;
            return all > 0 ? Math.min(100 * outNow / all, 99) : 0;
        }

        private void drop(int stuff) {
            floor += stuff;
            fallen += stuff;
        }

        /** The FULL RINGS are told anew, and the STRING is lifted out of them. */
        private void settle() {
            for (int level = lowest; level > roof && isLevel(level) && floor >= sizes[level]; level--) {
                floor -= sizes[level];
                lowest = level - 1;
            }
            hang(Math.min(water, lowest), Math.min(brine, lowest), Math.min(shield, lowest));
        }

        /** A YEAR's CREEP: answers how much SIZE is lost. */
        private int creep(int rate, int push) {
            int lost = 0;
            for (int level = roof; level <= lowest && isLevel(level); level++) {
                int loss = creepOf(sizes[level], rate, level, push);
                sizes[level] -= loss;
                lost += loss;
            }
            settle();
            return lost;
        }

        private int roomLeft() {
            return sizesDownTo(lowest) - floor;
        }

        private int allSizes() {
            return sizesDownTo(bottom);
        }

        private int sizesDownTo(int last) {
            int sum = 0;
            for (int level = roof; level <= last && isLevel(level); level++) {
                sum += sizes[level];
            }
            return sum;
        }

        private boolean isWithin(int[] limits) {
            for (int level = roof; level <= bottom && isLevel(level) && level < limits.length; level++) {
                if (sizes[level] > limits[level]) {
                    return false;
                }
            }
            return true;
        }
    }

    /** OIL, in LOTS, and GAS that are kept in a CAVERN. */
    private static final class Stock {
        private final int[] owners = new int[MOST_LOTS];
        private final int[] amounts = new int[MOST_LOTS];
        private int lots;
        private int oil;
        private int gas;

        private void copyFrom(Stock other) {
            System.arraycopy(other.owners, 0, owners, 0, MOST_LOTS);
            System.arraycopy(other.amounts, 0, amounts, 0, MOST_LOTS);
            lots = other.lots;
            oil = other.oil;
            gas = other.gas;
        }

        private boolean isLastOf(int owner) {
            return lots > 0 && lots <= MOST_LOTS && owners[lots - 1] == owner;
        }

        private boolean takesLotOf(int owner) {
            return lots < MOST_LOTS || isLastOf(owner);
        }

        private void addOil(int owner, int n) {
            if (isLastOf(owner)) {
                amounts[lots - 1] += n;
            } else if (lots < MOST_LOTS) {
                owners[lots] = owner;
                amounts[lots] = n;
                lots++;
            }
            oil += n;
        }

        /** What is drawn is taken from the first LOTS and put to what their OWNERS drew. */
        private void drawOil(int n, int[] drawn) {
            int left = n;
            int gone = 0;
            for (int i = 0; i < lots && i < MOST_LOTS && left > 0; i++) {
                int part = Math.min(left, amounts[i]);
                int owner = owners[i];
                amounts[i] -= part;
                left -= part;
                if (owner >= 0 && owner < drawn.length) {
                    drawn[owner] += part;
                }
                if (amounts[i] == 0) {
                    gone++;
                }
            }
            dropLots(gone);
            oil -= n;
        }

        private void dropLots(int gone) {
            for (int i = gone; i < lots && i < MOST_LOTS; i++) {
                owners[i - gone] = owners[i];
                amounts[i - gone] = amounts[i];
            }
            lots -= gone;
        }

        private int oilOf(int owner) {
            int sum = 0;
            for (int i = 0; i < lots && i < MOST_LOTS; i++) {
                if (owners[i] == owner) {
                    sum += amounts[i];
                }
            }
            return sum;
        }
    }

    /** A CAVERN: its shape, its stock and all that is told of it. */
    private static final class Cavern {
        private final Shape shape = new Shape();
        private final Stock stock = new Stock();
        private final LeakTests tests = new LeakTests();
        private final boolean[] fell = new boolean[LEVELS];
        // REACHES as measure found them, for the echoes of one call.
        private final int[] reaches = new int[LEVELS];
        private int place;
        private int state;
        private boolean cut;
        private int lost;
        private int aDay;

        private void begin(int newPlace, int a, int b) {
            place = newPlace;
            state = PLANNED;
            shape.begin(a, b);
        }

        private boolean isWashable() {
            return state == PLANNED || state == WASHED;
        }

        private int shapeTells(int what) {
            switch (what) {
                case 0:
                    return state;
                case 1:
                    return shape.out;
                case 2:
                    return shape.fallen;
                case 3:
                    return shape.floor;
                case 4:
                    return shape.roomLeft();
                case 12:
                    return shape.water;
                case 13:
                    return shape.brine;
                default:
                    return shape.shield;
            }
        }

        private int stockTells(int what) {
            switch (what) {
                case 5:
                    return pushNow();
                case 6:
                    return stock.oil;
                case 7:
                    return stock.gas;
                case 8:
                    return leastPush();
                case 9:
                    return mostPush();
                case 10:
                    return leastPush() * gasRoom(shape, stock.oil);
                default:
                    return cut ? 1 : 0;
            }
        }

        private static int gasRoom(Shape in, int oil) {
            return Math.max(in.roomLeft() - oil, 1);
        }

        private static int pushOf(Shape in, int gas, int oil) {
            int room = gasRoom(in, oil);
            return room > 0 ? Math.min(gas / room, MOST_PUSH) : MOST_PUSH;
        }

        private int pushIn(Shape other) {
            return pushOf(other, stock.gas, stock.oil);
        }

        private int pushNow() {
            return pushIn(shape);
        }

        private int leastPush() {
            return shape.roof / 5;
        }

        private int mostPush() {
            return Math.max(shape.roof, 1);
        }

        private boolean takes(boolean gas, int n, int owner) {
            if (gas) {
                return n <= MOST_STOCK - stock.gas;
            }
            int most = Math.min(shape.roomLeft() - 1, MOST_STOCK);
            return n <= most - stock.oil && stock.takesLotOf(owner);
        }

        private boolean marksHold(int gas, int oil, boolean in) {
            int push = pushOf(shape, gas, oil);
            return push <= mostPush() && (in || gas == 0 || push >= leastPush());
        }

        private int gapTo(Cavern other, int level) {
            return Math.abs(place - other.place) - shape.reachAt(level) - other.shape.reachAt(level);
        }

        private boolean isShelf(int level, int over) {
            int below = level + 1;
            if (!shape.isOpen(level) || !shape.isOpen(below)) {
                return false;
            }
            if (level == shape.roof && !fell[below]) {
                return false;
            }
            return shape.reachAt(below) - shape.reachAt(level) > over;
        }

        /** A SHELF FALLS: answers how much came loose. */
        private int letFall(int level, int over) {
            if (!isLevel(level)) {
                return 0;
            }
            int reach = shape.reachAt(level + 1) - over;
            int loose = Math.max(reach * reach - shape.sizes[level], 0);
            shape.sizes[level] += loose;
            fell[level] = true;
            if (shape.water > level || shape.brine > level) {
                cut = true;
            }
            if (level == shape.roof) {
                state = GIVEN_UP;
            }
            shape.drop(loose);
            shape.settle();
            return loose;
        }

        private void measure() {
            for (int level = 0; level < LEVELS; level++) {
                reaches[level] = shape.reachAt(level);
            }
        }

        /** Whether an echo from the tool's LEVEL reaches a RING; measure goes ahead of it. */
        private boolean isSeen(int tool, int level) {
            if (!shape.isOpen(tool) || !shape.isOpen(level)) {
                return false;
            }
            int all = Math.abs(level - tool);
            int way = level > tool ? 1 : -1;
            for (int i = 1; i < all; i++) {
                if (reaches[tool + way * i] * all < reaches[level] * i) {
                    return false;
                }
            }
            return true;
        }

        private int countSeen(int tool, int wanted) {
            int seen = 0;
            for (int level = shape.roof; level <= shape.bottom && isLevel(level); level++) {
                if ((wanted >> level & 1) == 1 && isSeen(tool, level)) {
                    seen++;
                }
            }
            return seen;
        }
    }

    /** READINGS of echoes, of all CAVERNS. */
    private static final class Readings {
        private final int[] numbers = new int[MOST_READINGS];
        private final int[] levels = new int[MOST_READINGS];
        private final int[] reaches = new int[MOST_READINGS];
        private final int[] doubts = new int[MOST_READINGS];
        private int count;
        // The BOUNDS that findBounds found last.
        private int lower;
        private int upper;

        private void add(int cavern, int level, int reach, int doubt) {
            if (count >= MOST_READINGS) {
                return;
            }
            numbers[count] = cavern;
            levels[count] = level;
            reaches[count] = reach;
            doubts[count] = doubt;
            count++;
        }

        /** BOUNDS of a RING by the first so many READINGS: false if none of them is of it. */
        private boolean findBounds(int cavern, int level, int first) {
            lower = -ENDLESS;
            upper = ENDLESS;
            boolean any = false;
            for (int i = 0; i < first && i < count && i < MOST_READINGS; i++) {
                if (numbers[i] == cavern && levels[i] == level) {
                    any = true;
                    lower = Math.max(lower, reaches[i] - doubts[i]);
                    upper = Math.min(upper, reaches[i] + doubts[i]);
                }
            }
            return any;
        }

        private int firstQuarrel(int cavern) {
            for (int i = 0; i < count && i < MOST_READINGS; i++) {
                if (numbers[i] == cavern && findBounds(cavern, levels[i], i + 1) && lower > upper) {
                    return i;
                }
            }
            return NONE;
        }
    }

    /** TESTS of a CAVERN for its LEAK. */
    private static final class LeakTests {
        private static final int FARTHEST = 9999;
        private static final int NO_FIT = 10000;

        private final int[] days = new int[MOST_TESTS];
        private final int[] falls = new int[MOST_TESTS];
        private final int[] doubts = new int[MOST_TESTS];
        private final int[] leasts = new int[MOST_TESTS];
        private final int[] mosts = new int[MOST_TESTS];
        private int count;

        private void add(int ofDays, int fall, int doubt, int a, int b) {
            if (count >= MOST_TESTS) {
                return;
            }
            days[count] = ofDays;
            falls[count] = fall;
            doubts[count] = doubt;
            leasts[count] = a;
            mosts[count] = b;
            count++;
        }

        private int leakBound(boolean wantsLeast) {
            int least = -FARTHEST;
            int greatest = FARTHEST;
            for (int i = 0; i < count && i < MOST_TESTS; i++) {
                if (days[i] < 1) {
                    continue;
                }
                // LEAK and what they made, a day, is a whole number from low to high.
                int low = -Math.floorDiv(doubts[i] - falls[i], days[i]);
                int high = Math.floorDiv(falls[i] + doubts[i], days[i]);
                if (low > high) {
                    return NO_FIT;
                }
                least = Math.max(least, low - mosts[i]);
                greatest = Math.min(greatest, high - leasts[i]);
            }
            if (least > greatest) {
                return NO_FIT;
            }
            return wantsLeast ? least : greatest;
        }
    }

    /** A WINTER's NEEDS. What the first DAYS can get at most is the least that any set of CAVERNS proves. */
    private static final class Winter {
        private final int[] needs = new int[DAYS];
        // The set that proved what mostBy answered last.
        private int leastSet;

        private int mostBy(Cavern[] caverns, int count, int lastDay) {
            int givers = giversOf(caverns, count);
            int least = ENDLESS;
            for (int set = 0; set < 1 << MOST_CAVERNS; set++) {
                if ((set & ~givers) != 0) {
                    continue;
                }
                int proved = provedBy(set, caverns, givers, lastDay);
                if (proved < least) {
                    least = proved;
                    leastSet = set;
                }
            }
            return least;
        }

        private static int giversOf(Cavern[] caverns, int count) {
            int bits = 0;
            for (int i = 0; i < count && i < caverns.length; i++) {
                if (caverns[i].state != GIVEN_UP) {
                    bits |= 1 << i;
                }
            }
            return bits;
        }

        private int provedBy(int set, Cavern[] caverns, int givers, int lastDay) {
            int sum = 0;
            int aDay = 0;
            for (int i = 0; i < caverns.length; i++) {
                if ((set >> i & 1) == 1) {
                    aDay += caverns[i].aDay;
                } else if ((givers >> i & 1) == 1) {
                    sum += caverns[i].stock.oil;
                }
            }
            for (int day = 0; day <= lastDay && day < DAYS; day++) {
                sum += Math.min(needs[day], aDay);
            }
            return sum;
        }
    }

    /** AIMS, CHOICES and the search for the best way through them. */
    private static final class Planner {
        private final int[] aims = new int[LEVELS];
        private final int[] waters = new int[MOST_CHOICES];
        private final int[] brines = new int[MOST_CHOICES];
        private final int[] amounts = new int[MOST_CHOICES];
        private int choices;
        // The shape ahead of each STEP of the way that is tried, and behind the last.
        private final Shape[] shapes = new Shape[MOST_STEPS + 1];
        private final int[] way = new int[MOST_STEPS];
        private final int[] best = new int[MOST_STEPS];
        private int leastSum;

        private Planner() {
            for (int i = 0; i <= MOST_STEPS; i++) {
                shapes[i] = new Shape();
            }
        }

        private void add(int water, int brine, int n) {
            if (choices >= MOST_CHOICES) {
                return;
            }
            waters[choices] = water;
            brines[choices] = brine;
            amounts[choices] = n;
            choices++;
        }

        private void seek(Shape from, int m, Rock rock, int[] limits) {
            leastSum = NONE;
            shapes[0].copyFrom(from);
            seekFrom(0, m, rock, limits);
        }

        private void seekFrom(int depth, int m, Rock rock, int[] limits) {
            if (depth >= m || depth >= MOST_STEPS) {
                weigh(shapes[depth]);
                return;
            }
            Shape next = shapes[depth + 1];
            for (int i = 0; i < choices && i < MOST_CHOICES; i++) {
                next.copyFrom(shapes[depth]);
                if (!next.isOpen(waters[i]) || !next.isOpen(brines[i])) {
                    continue;
                }
                next.hang(waters[i], brines[i], next.shield);
                next.wash(amounts[i], rock);
                if (next.isWithin(limits)) {
                    way[depth] = i;
                    seekFrom(depth + 1, m, rock, limits);
                }
            }
        }

        private void weigh(Shape shape) {
            int sum = 0;
            for (int level = shape.roof; level <= shape.bottom && isLevel(level); level++) {
                if (aims[level] > 0) {
                    sum += Math.abs(shape.sizeAt(level) - aims[level]);
                }
            }
            if (leastSum == NONE || sum < leastSum) {
                leastSum = sum;
                System.arraycopy(way, 0, best, 0, MOST_STEPS);
            }
        }

        private int bestAt(int i, int m) {
            return leastSum != NONE && i >= 0 && i < m && i < MOST_STEPS ? best[i] : NONE;
        }
    }

    /** The latest ACTS, for taking back. */
    private static final class Acts {
        private final Act[] kept = new Act[MOST_ACTS];
        private int first;
        private int count;

        private Acts() {
            for (int i = 0; i < MOST_ACTS; i++) {
                kept[i] = new Act();
            }
        }

        private void forget() {
            count = 0;
        }

        /** Keeps how a CAVERN is ahead of an ACT; the oldest ACT gives way if there are too many. */
        private void keep(int number, Cavern it, int[] drawn) {
            if (count >= MOST_ACTS) {
                first = (first + 1) % MOST_ACTS;
                count--;
            }
            kept[(first + count) % MOST_ACTS].take(number, it, drawn);
            count++;
        }

        private Act takeLast() {
            if (count < 1) {
                return null;
            }
            count--;
            return kept[(first + count) % MOST_ACTS];
        }
    }

    /** What an ACT may change of a CAVERN, as it was ahead of it. Whether the STRING is CUT is no ACT's. */
    private static final class Act {
        private int number;
        private final Shape shape = new Shape();
        private final Stock stock = new Stock();
        private int state;
        private final int[] drawn = new int[OWNERS];

        private void take(int cavern, Cavern it, int[] drawnNow) {
            number = cavern;
            shape.copyFrom(it.shape);
            stock.copyFrom(it.stock);
            state = it.state;
            System.arraycopy(drawnNow, 0, drawn, 0, Math.min(OWNERS, drawnNow.length));
        }

        private void putBack(Cavern it, int[] drawnNow) {
            it.shape.copyFrom(shape);
            it.stock.copyFrom(stock);
            it.state = state;
            System.arraycopy(drawn, 0, drawnNow, 0, Math.min(OWNERS, drawnNow.length));
        }
    }
}

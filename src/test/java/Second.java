import java.util.ArrayList;
import java.util.List;
import java.util.TreeSet;

/** The document written a second time, by other ways and with no look at cost: what SecondTest compares with. */
final class Second {
    private static final class Fault extends RuntimeException {
        private static final long serialVersionUID = 1;
        final int place;

        Fault(int place) {
            super(null, null, false, false);
            this.place = place;
        }
    }

    private static final class Refused extends RuntimeException {
        private static final long serialVersionUID = 1;
        final int number;

        Refused(int number) {
            super(null, null, false, false);
            this.number = number;
        }
    }

    /** A RING; a CAVERN's are told from its ROOF down. */
    private static final class Ring {
        int level;
        int size = 1;
        boolean full;
        boolean fell;

        int reach() {
            int r = 0;
            while ((r + 1) * (r + 1) <= size) {
                r++;
            }
            return r;
        }
    }

    private static final class Hole {
        int place;
        List<Ring> rings = new ArrayList<>();
        int state;
        boolean cut;
        int water;
        int brine;
        int shield;
        int floor;
        int out;
        int fell;
        int lost;
        int gas;
        int gives;
        List<int[]> lots = new ArrayList<>();
        List<int[]> tests = new ArrayList<>();

        Hole copy() {
            Hole h = new Hole();
            h.place = place;
            h.state = state;
            h.cut = cut;
            h.water = water;
            h.brine = brine;
            h.shield = shield;
            h.floor = floor;
            h.out = out;
            h.fell = fell;
            h.lost = lost;
            h.gas = gas;
            h.gives = gives;
            for (Ring r : rings) {
                Ring s = new Ring();
                s.level = r.level;
                s.size = r.size;
                s.full = r.full;
                s.fell = r.fell;
                h.rings.add(s);
            }
            for (int[] lot : lots) {
                h.lots.add(lot.clone());
            }
            h.tests.addAll(tests);
            return h;
        }

        Ring at(int level) {
            for (Ring r : rings) {
                if (r.level == level) {
                    return r;
                }
            }
            return null;
        }

        Ring open(int level) {
            Ring r = at(level);
            return r == null || r.full ? null : r;
        }

        Ring roof() {
            return rings.get(0);
        }

        Ring lowest() {
            Ring last = null;
            for (Ring r : rings) {
                if (!r.full) {
                    last = r;
                }
            }
            return last;
        }

        int sum() {
            return rings.stream().mapToInt(r -> r.size).sum();
        }

        int oil() {
            return lots.stream().mapToInt(l -> l[1]).sum();
        }

        int room() {
            return rings.stream().filter(r -> !r.full).mapToInt(r -> r.size).sum() - floor;
        }

        int push(int withGas, int withOil) {
            return Math.min(99, withGas / Math.max(1, room() - withOil));
        }

        int push() {
            return push(gas, oil());
        }

        int most() {
            return Math.max(1, roof().level);
        }

        int least() {
            return roof().level / 5;
        }

        void fills() {
            while (lowest() != roof() && floor >= lowest().size) {
                floor -= lowest().size;
                lowest().full = true;
            }
            int bottom = lowest().level;
            water = water > bottom ? bottom : water;
            brine = brine > bottom ? bottom : brine;
            shield = shield > bottom ? bottom : shield;
        }

        int creeps(int rate) {
            int before = sum();
            int push = push();
            for (Ring r : rings) {
                if (!r.full) {
                    long loss = (long) r.size * rate * Math.max(0, r.level + 10 - push) / 10000;
                    r.size = (int) Math.max(1, r.size - loss);
                }
            }
            fills();
            return before - sum();
        }

        boolean seen(int tool, int level) {
            Ring one = open(tool);
            Ring other = open(level);
            if (one == null || other == null) {
                return false;
            }
            for (Ring r : rings) {
                boolean between = r.level > Math.min(tool, level) && r.level < Math.max(tool, level);
                if (between && r.reach() * Math.abs(level - tool) < other.reach() * Math.abs(r.level - tool)) {
                    return false;
                }
            }
            return true;
        }
    }

    private String text = "";
    private List<Integer> rock = new ArrayList<>();
    private final int[] laws = {90, 80, 70, 60, 50, 40, 30, 20, 10, 0};
    private final int[] told = {2, 5, 10, 5};
    private final List<Hole> holes = new ArrayList<>();
    private int year;
    private int ownerNow;
    private int spreadNow = 100;
    private final int[] drawn = new int[6];
    private final int[] needs = new int[12];
    private final int[] aims = new int[30];
    private final List<int[]> choices = new ArrayList<>();
    private final List<int[]> readings = new ArrayList<>();
    // Of each ACT: the CAVERN ahead of it, and which; what OWNERS drew ahead of it.
    private final List<Hole> acts = new ArrayList<>();
    private final List<int[]> actsOf = new ArrayList<>();
    private final int[] refusals = new int[8];

    Second() {
        for (int i = 0; i < 30; i++) {
            rock.add(0);
        }
    }

    /** The answer of a refused call; far if REFUSALS are that much less. */
    int refuse(RuntimeException why, boolean far) {
        if (!(why instanceof Refused)) {
            throw why;
        }
        int number = ((Refused) why).number;
        refusals[-number]++;
        return far ? number - 1000000000 : number;
    }

    private static void need(boolean so, int number) {
        if (!so) {
            throw new Refused(number);
        }
    }

    private static void inside(long v, long least, long most) {
        need(v >= least, -4);
        need(v <= most, -6);
    }

    private Hole hole(int number) {
        need(number >= 0 && number < holes.size(), -1);
        return holes.get(number);
    }

    private Ring ring(int cavern, int level) {
        Ring r = hole(cavern).at(level);
        need(r != null, -1);
        return r;
    }

    private void act(int cavern) {
        acts.add(holes.get(cavern).copy());
        int[] of = new int[7];
        System.arraycopy(drawn, 0, of, 0, 6);
        of[6] = cavern;
        actsOf.add(of);
        if (acts.size() > 200) {
            acts.remove(0);
            actsOf.remove(0);
        }
    }

    private void forget() {
        acts.clear();
        actsOf.clear();
    }

    // ---- I ----

    public int feed(int n, long bytes) {
        inside(n, 1, 8);
        need(text.length() + n <= 60, -6);
        for (int i = 0; i < n; i++) {
            text += (char) (bytes >>> 8 * i & 255);
        }
        return text.length();
    }

    public int beds() {
        need(holes.isEmpty(), -3);
        String read = text;
        text = "";
        try {
            int[] at = {0};
            List<Integer> kinds = items(read, at, 0, 0);
            if (at[0] < read.length() || kinds.size() < 30) {
                throw new Fault(at[0]);
            }
            rock = kinds;
            return 30;
        } catch (Fault fault) {
            return -20 - fault.place;
        }
    }

    private static char sign(String read, int at) {
        return at < read.length() ? read.charAt(at) : 0xFFFF;
    }

    /** Reads ITEMS, one at least, up to a sign that begins none; ahead is how many LEVELS there are. */
    private static List<Integer> items(String read, int[] at, int ahead, int deep) {
        List<Integer> all = new ArrayList<>();
        do {
            char c = sign(read, at[0]);
            List<Integer> one = new ArrayList<>();
            int place = at[0];
            at[0]++;
            if (c == 's') {
                one.add(0);
            } else if (c == 'h') {
                one.add(10);
            } else if (c == 'd') {
                char digit = sign(read, at[0]);
                if (digit < '1' || digit > '9') {
                    throw new Fault(at[0]);
                }
                one.add(digit - '0');
                at[0]++;
            } else if (c == '(' && deep < 3) {
                one = items(read, at, ahead + all.size(), deep + 1);
                if (sign(read, at[0]) != ')') {
                    throw new Fault(at[0]);
                }
                at[0]++;
            } else {
                throw new Fault(place);
            }
            int count = count(read, at, ahead + all.size(), one.size());
            for (int i = 0; i < count; i++) {
                all.addAll(one);
            }
        } while (at[0] < read.length() && "shd(".indexOf(sign(read, at[0])) >= 0);
        return all;
    }

    private static int count(String read, int[] at, int ahead, int each) {
        int place = at[0];
        while (at[0] < place + 2 && Character.digit(sign(read, at[0]), 10) >= 0 && sign(read, at[0]) < 128) {
            at[0]++;
        }
        if (at[0] == place || read.charAt(place) == '0') {
            throw new Fault(place);
        }
        int count = Integer.parseInt(read.substring(place, at[0]));
        if (count > 30 || ahead + count * each > 30) {
            throw new Fault(place);
        }
        return count;
    }

    public int bed(int level) {
        need(level >= 0 && level <= 29, -1);
        return rock.get(level);
    }

    public int cavern(int place, int a, int b) {
        need(a >= 0 && a <= b && b <= 29, -1);
        inside(place, 0, 999);
        need(holes.size() < 5, -6);
        Hole h = new Hole();
        h.place = place;
        for (int level = a; level <= b; level++) {
            Ring r = new Ring();
            r.level = level;
            h.rings.add(r);
        }
        h.water = b;
        h.brine = a;
        h.shield = a;
        holes.add(h);
        forget();
        return holes.size() - 1;
    }

    public int string(int cavern, int water, int brine, int oil) {
        Hole h = hole(cavern);
        need(h.open(water) != null && h.open(brine) != null && h.open(oil) != null, -1);
        need(h.state <= 1, -3);
        act(cavern);
        h.water = water;
        h.brine = brine;
        h.shield = oil;
        return 1;
    }

    // ---- II ----

    public int law(int k, int v) {
        need(k >= 0 && k <= 9, -1);
        inside(v, 0, 99);
        int was = laws[k];
        laws[k] = v;
        return was;
    }

    /** Washes a CAVERN: what is OUT. */
    private int wash(Hole h, int n) {
        int out = 0;
        int strength = 0;
        int level = h.water;
        while (true) {
            Ring r = h.open(level);
            if (level >= h.shield) {
                int kind = rock.get(level);
                int w = kind == 10 ? 0 : n * laws[strength / 10] / 100;
                w = r == h.roof() ? w / 2 : w;
                w = Math.min(w, 99999 - r.size);
                int stays = kind == 10 ? 0 : w * kind / 10;
                r.size += w;
                h.floor += stays;
                h.fell += stays;
                out += w - stays;
                strength = Math.min(99, 100 * out / (out + 4 * n));
            }
            if (level == h.brine) {
                break;
            }
            level += Integer.signum(h.brine - level);
        }
        h.out += out;
        h.fills();
        return out;
    }

    private boolean standsBy(Hole h) {
        int number = holes.indexOf(h);
        for (int other = 0; other < holes.size(); other++) {
            for (Ring r : h.rings) {
                Ring s = holes.get(other).at(r.level);
                if (other != number && s != null && gap(h, r, holes.get(other), s) < told[2]) {
                    return false;
                }
            }
        }
        return true;
    }

    private static int gap(Hole h, Ring r, Hole g, Ring s) {
        return Math.abs(h.place - g.place) - r.reach() - s.reach();
    }

    public int step(int cavern, int n) {
        Hole h = hole(cavern);
        need(h.state <= 1 && !h.cut, -3);
        inside(n, 1, 99);
        Hole before = h.copy();
        int out = wash(h, n);
        if (!standsBy(h)) {
            holes.set(cavern, before);
            throw new Refused(-7);
        }
        holes.set(cavern, before);
        act(cavern);
        holes.set(cavern, h);
        h.state = 1;
        return out;
    }

    public int half(int cavern, int n) {
        Hole h = hole(cavern);
        need(h.state <= 1 && !h.cut && n % 2 == 0, -3);
        inside(n, 1, 99);
        Hole one = h.copy();
        Hole two = h.copy();
        wash(one, n);
        wash(two, n / 2);
        wash(two, n / 2);
        return Math.abs(one.sum() - two.sum());
    }

    private boolean shelf(Hole h, Ring r) {
        Ring below = h.open(r.level + 1);
        if (below == null || r.full || r == h.roof() && !below.fell) {
            return false;
        }
        return below.reach() - r.reach() > told[3];
    }

    public int ring(int cavern, int level, int what) {
        Ring r = ring(cavern, level);
        need(what >= 0 && what <= 3, -2);
        boolean shelf = shelf(hole(cavern), r);
        return new int[] {r.size, r.reach(), r.full ? 1 : 0, shelf ? 1 : 0}[what];
    }

    public int of(int cavern, int what) {
        Hole h = hole(cavern);
        need(what >= 0 && what <= 14, -2);
        int cushion = 0;
        while (what == 10 && h.push(cushion, h.oil()) < h.least()) {
            cushion++;
        }
        return new int[] {h.state, h.out, h.fell, h.floor, h.room(), h.push(), h.oil(), h.gas, h.least(), h.most(),
            cushion, h.cut ? 1 : 0, h.water, h.brine, h.shield}[what];
    }

    // ---- III ----

    public int years(int n) {
        inside(n, 1, 20);
        need(year + n <= 60, -6);
        for (int i = 0; i < n; i++) {
            year++;
            for (Hole h : holes) {
                h.lost += h.state == 4 ? 0 : h.creeps(told[0]);
            }
        }
        forget();
        return year;
    }

    public int set(int what, int v) {
        need(what >= 0 && what <= 3, -2);
        inside(v, new int[] {0, 0, 0, 1}[what], new int[] {99, 99, 999, 99}[what]);
        need(what != 0 || v <= told[1], -3);
        need(what != 1 || v >= told[0], -3);
        int was = told[what];
        told[what] = v;
        return was;
    }

    public int between(int cavern, int level, int n, boolean low) {
        Hole h = hole(cavern);
        need(h.open(level) != null, -1);
        inside(n, 0, 60);
        int size = h.at(level).size;
        int part = told[low ? 0 : 1] * Math.max(0, level + 10 - h.push());
        for (int i = 0; i < n; i++) {
            size = Math.max(1, size - size * part / 10000);
        }
        return size;
    }

    public int fill(int cavern, boolean gas, int n, boolean in) {
        Hole h = hole(cavern);
        int is = gas ? h.gas : h.oil();
        need(h.state < 3 && (in || is >= n), -3);
        inside(n, 1, 99999);
        if (in) {
            need(is + n <= 99999, -6);
            need(gas || is + n <= h.room() - 1, -6);
            int lots = h.lots.size();
            need(gas || lots < 30 || h.lots.get(lots - 1)[0] == ownerNow, -6);
        }
        int then = in ? is + n : is - n;
        int gasThen = gas ? then : h.gas;
        int push = h.push(gasThen, gas ? h.oil() : then);
        need(push <= h.most(), -7);
        need(in || gasThen == 0 || push >= h.least(), -7);
        act(cavern);
        h.state = 2;
        h.gas = gasThen;
        for (int i = 0; i < n && !gas; i++) {
            barrel(h, in);
        }
        return then;
    }

    private void barrel(Hole h, boolean in) {
        if (in) {
            if (h.lots.isEmpty() || h.lots.get(h.lots.size() - 1)[0] != ownerNow) {
                h.lots.add(new int[] {ownerNow, 0});
            }
            h.lots.get(h.lots.size() - 1)[1]++;
            return;
        }
        drawn[h.lots.get(0)[0]]++;
        h.lots.get(0)[1]--;
        if (h.lots.get(0)[1] == 0) {
            h.lots.remove(0);
        }
    }

    public int owner(int owner) {
        need(owner >= 0 && owner <= 5, -1);
        int was = ownerNow;
        ownerNow = owner;
        return was;
    }

    public int has(int owner, int cavern, boolean drawnOnes) {
        need(owner >= 0 && owner <= 5, -1);
        if (drawnOnes) {
            return drawn[owner];
        }
        List<Hole> over = cavern == -1 ? holes : List.of(hole(cavern));
        int sum = 0;
        for (Hole h : over) {
            for (int[] lot : h.lots) {
                sum += lot[0] == owner ? lot[1] : 0;
            }
        }
        return sum;
    }

    public int spread(int v) {
        inside(v, 0, 999);
        int was = spreadNow;
        spreadNow = v;
        return was;
    }

    public int sinks(int mark) {
        need(mark >= -1 && mark <= 999, -1);
        if (mark >= 0) {
            int sum = 0;
            for (Hole h : holes) {
                sum += (int) ((long) h.lost * Math.max(0, spreadNow - Math.abs(h.place - mark)) / 1000);
            }
            return sum;
        }
        int worst = 999;
        for (int x = 998; x >= 0; x--) {
            worst = sinks(x) >= sinks(worst) ? x : worst;
        }
        return worst;
    }

    public int close(int cavern) {
        need(hole(cavern).state < 3, -3);
        hole(cavern).state = 3;
        forget();
        return 1;
    }

    public int giveUp(int cavern) {
        need(hole(cavern).state != 4, -3);
        hole(cavern).state = 4;
        forget();
        return 1;
    }

    public int breach(int cavern, boolean must) {
        need(hole(cavern).state == 3, -3);
        Hole h = hole(cavern).copy();
        for (int i = 1; i <= 60; i++) {
            h.creeps(told[must ? 0 : 1]);
            if (h.push() > h.most()) {
                return year + i;
            }
        }
        return -9;
    }

    // ---- IV ----

    public int wall(int a, int b, int level) {
        need(a != b, -1);
        return gap(hole(a), ring(a, level), hole(b), ring(b, level));
    }

    public int near(int cavern, int what) {
        Hole h = hole(cavern);
        need(what == 0 || what == 1, -2);
        int[] best = {Integer.MAX_VALUE, -9, -9};
        for (Ring r : h.rings) {
            for (int other = 0; other < holes.size(); other++) {
                Ring s = holes.get(other).at(r.level);
                if (other != cavern && s != null && gap(h, r, holes.get(other), s) < best[0]) {
                    best = new int[] {gap(h, r, holes.get(other), s), r.level, other};
                }
            }
        }
        return best[1 + what];
    }

    public int fall(int cavern, int level) {
        Hole h = hole(cavern);
        Ring r = ring(cavern, level);
        need(shelf(h, r) && h.state != 4, -3);
        int side = h.at(level + 1).reach() - told[3];
        int loose = side * side - r.size;
        r.size = side * side;
        r.fell = true;
        h.cut |= h.water > level || h.brine > level;
        h.state = r == h.roof() ? 4 : h.state;
        h.floor += loose;
        h.fell += loose;
        h.fills();
        forget();
        return loose;
    }

    public int mend(int cavern) {
        need(hole(cavern).cut, -3);
        hole(cavern).cut = false;
        return 1;
    }

    public int hidden(int cavern, int tools) {
        Hole h = hole(cavern);
        int bits = 0;
        for (Ring r : h.rings) {
            boolean any = false;
            for (Ring tool : h.rings) {
                any |= (tools & 1 << tool.level) != 0 && h.seen(tool.level, r.level);
            }
            bits += any ? 0 : 1 << r.level;
        }
        return bits;
    }

    public int reading(int cavern, int level, int reach, int doubt) {
        ring(cavern, level);
        need(reach >= 0 && doubt >= 0, -4);
        need(reach <= 999 && doubt <= 99 && readings.size() < 40, -6);
        readings.add(new int[] {cavern, level, reach - doubt, reach + doubt});
        return readings.size() - 1;
    }

    /** The lower and the upper BOUND by the first so many READINGS; null without any. */
    private int[] bound(int cavern, int level, int first) {
        TreeSet<Integer> lows = new TreeSet<>();
        TreeSet<Integer> highs = new TreeSet<>();
        for (int[] r : readings.subList(0, first)) {
            if (r[0] == cavern && r[1] == level) {
                lows.add(r[2]);
                highs.add(r[3]);
            }
        }
        return lows.isEmpty() ? null : new int[] {lows.last(), highs.first()};
    }

    public int bounds(int cavern, int level, int what) {
        ring(cavern, level);
        need(what == 0 || what == 1, -2);
        int[] both = bound(cavern, level, readings.size());
        return both == null ? -9 : both[what];
    }

    public int quarrel(int cavern) {
        hole(cavern);
        for (int i = 0; i < readings.size(); i++) {
            for (Ring r : hole(cavern).rings) {
                int[] both = bound(cavern, r.level, i + 1);
                if (both != null && both[0] > both[1]) {
                    return i;
                }
            }
        }
        return -9;
    }

    public int nextEcho(int cavern, int w) {
        Hole h = hole(cavern);
        inside(w, 0, 999);
        int most = 1;
        int best = -9;
        for (int tool = 29; tool >= 0; tool--) {
            int seen = 0;
            for (Ring r : h.rings) {
                int[] both = bound(cavern, r.level, readings.size());
                seen += (both == null || both[1] - both[0] > w) && h.seen(tool, r.level) ? 1 : 0;
            }
            best = seen >= most ? tool : best;
            most = Math.max(seen, most);
        }
        return best;
    }

    // ---- V ----

    public int test(int cavern, int days, int fell, int doubt, int a, int b) {
        Hole h = hole(cavern);
        need(days >= 1 && fell >= 0 && doubt >= 0 && a >= -99 && b >= -99 && b >= a, -4);
        need(days <= 99 && fell <= 9999 && doubt <= 99 && a <= 99 && b <= 99 && h.tests.size() < 6, -6);
        h.tests.add(new int[] {days, fell, doubt, a, b});
        return h.tests.size();
    }

    public int leak(int cavern, int what) {
        Hole h = hole(cavern);
        need(what == 0 || what == 1, -2);
        int found = 10000;
        for (int i = 0; i <= 19998; i++) {
            int leak = what == 0 ? 9999 - i : i - 9999;
            found = h.tests.stream().allMatch(t -> fits(leak, t)) ? leak : found;
        }
        return found;
    }

    private static boolean fits(int leak, int[] t) {
        // A DAY's fall is then within one of the DAYS' parts: only made numbers near that need a look.
        int near = t[1] / t[0] - leak;
        for (int made = Math.max(t[3], near - 100); made <= Math.min(t[4], near + 101); made++) {
            if (Math.abs(t[0] * (leak + made) - t[1]) <= t[2]) {
                return true;
            }
        }
        return false;
    }

    public int howLong(int one, int other, int doubt) {
        need(one >= 0 && other >= 0 && doubt >= 0, -4);
        need(one <= 999 && other <= 999 && doubt <= 9999, -6);
        int apart = Math.abs(one - other);
        int days = apart == 0 ? 1000 : 2 * doubt / apart + 1;
        return days > 999 ? -9 : days;
    }

    public int need(int day, int v) {
        need(day >= 0 && day <= 11, -1);
        inside(v, 0, 999);
        int was = needs[day];
        needs[day] = v;
        return was;
    }

    public int gives(int cavern, int v) {
        Hole h = hole(cavern);
        inside(v, 0, 999);
        int was = h.gives;
        h.gives = v;
        return was;
    }

    /** Gives on DAY 0 as much as can be, then, with that kept, on DAY 1 ..: each by ways that lead OIL on. */
    public int given(int day) {
        need(day >= -1 && day <= 11, -1);
        int[][] gave = new int[holes.size()][12];
        int[] left = new int[holes.size()];
        for (int i = 0; i < left.length; i++) {
            left[i] = holes.get(i).state == 4 ? 0 : holes.get(i).oil();
        }
        int[] sums = new int[12];
        for (int d = 0; d < 12; d++) {
            while (sums[d] < needs[d] && more(gave, left, d, new boolean[left.length])) {
                sums[d]++;
            }
        }
        int all = 0;
        for (int sum : sums) {
            all += sum;
        }
        return day == -1 ? all : sums[day];
    }

    /** One OIL more on a DAY; CAVERNS that gave on other DAYS may be spared there by others. */
    private boolean more(int[][] gave, int[] left, int day, boolean[] tried) {
        for (int i = 0; i < left.length; i++) {
            if (tried[i] || gave[i][day] >= holes.get(i).gives || holes.get(i).state == 4) {
                continue;
            }
            tried[i] = true;
            if (left[i] > 0) {
                left[i]--;
                gave[i][day]++;
                return true;
            }
            for (int other = 0; other < 12; other++) {
                if (other != day && gave[i][other] > 0 && more(gave, left, other, tried)) {
                    gave[i][other]--;
                    gave[i][day]++;
                    return true;
                }
            }
        }
        return false;
    }

    public int proof(int day) {
        need(day >= 0 && day <= 11, -1);
        int best = 0;
        for (int set = (1 << holes.size()) - 1; set >= 0; set--) {
            if (proves(set, day) <= proves(best, day)) {
                best = set;
            }
        }
        return best;
    }

    private int proves(int set, int day) {
        int rest = 0;
        int daily = 0;
        for (int i = 0; i < holes.size(); i++) {
            boolean in = (set & 1 << i) != 0;
            if (holes.get(i).state == 4) {
                if (in) {
                    return Integer.MAX_VALUE;
                }
                continue;
            }
            rest += in ? 0 : holes.get(i).oil();
            daily += in ? holes.get(i).gives : 0;
        }
        for (int d = 0; d <= day; d++) {
            rest += Math.min(daily, needs[d]);
        }
        return rest;
    }

    public int aim(int level, int v) {
        need(level >= 0 && level <= 29, -1);
        inside(v, 0, 99999);
        int was = aims[level];
        aims[level] = v;
        return was;
    }

    public int choice(int water, int brine, int n) {
        need(water >= 0 && water <= 29 && brine >= 0 && brine <= 29, -1);
        inside(n, 1, 99);
        need(choices.size() < 5, -6);
        choices.add(new int[] {water, brine, n});
        return choices.size();
    }

    public int noChoices() {
        int were = choices.size();
        choices.clear();
        return were;
    }

    /** All ways are numbers with a digit a STEP; each is gone from its first STEP on. */
    public int plan(int cavern, int m, int what) {
        Hole h = hole(cavern);
        need(what >= 0 && what <= 5, -2);
        need(h.state <= 1 && !h.cut, -3);
        inside(m, 1, 5);
        int ways = 1;
        for (int i = 0; i < m; i++) {
            ways *= choices.size();
        }
        long least = Long.MAX_VALUE;
        int[] best = new int[m];
        for (int way = 0; way < ways; way++) {
            int[] digits = new int[m];
            for (int i = m - 1, rest = way; i >= 0; i--) {
                digits[i] = rest % choices.size();
                rest /= choices.size();
            }
            holes.set(cavern, h.copy());
            long sum = go(holes.get(cavern), digits);
            if (sum < least) {
                least = sum;
                best = digits;
            }
        }
        holes.set(cavern, h);
        if (least == Long.MAX_VALUE || what > m) {
            return -9;
        }
        return what == 0 ? (int) least : best[what - 1];
    }

    private long go(Hole h, int[] digits) {
        for (int digit : digits) {
            int[] c = choices.get(digit);
            if (h.open(c[0]) == null || h.open(c[1]) == null) {
                return Long.MAX_VALUE;
            }
            h.water = c[0];
            h.brine = c[1];
            wash(h, c[2]);
            if (!standsBy(h)) {
                return Long.MAX_VALUE;
            }
        }
        long sum = 0;
        for (Ring r : h.rings) {
            sum += aims[r.level] == 0 ? 0 : Math.abs(aims[r.level] - r.size);
        }
        return sum;
    }

    // ---- VI ----

    public int undo() {
        need(!acts.isEmpty(), -3);
        Hole before = acts.remove(acts.size() - 1);
        int[] of = actsOf.remove(actsOf.size() - 1);
        Hole now = holes.get(of[6]);
        // What is told of a CAVERN beside ACTS stays.
        before.cut = now.cut;
        before.gives = now.gives;
        before.tests = now.tests;
        holes.set(of[6], before);
        System.arraycopy(of, 0, drawn, 0, 6);
        return 1;
    }

    public int count(int what) {
        int[] first = {year, holes.size(), text.length(), choices.size(), acts.size(),
            holes.stream().mapToInt(h -> h.out).sum(), holes.stream().mapToInt(h -> h.fell).sum(), readings.size()};
        if (what >= 0 && what <= 7) {
            return first[what];
        }
        return what >= 11 && what <= 17 ? refusals[what - 10] : -9;
    }
}

/** What a search answers, against a plainer way to find it: all ways tried, or the calls made one by one. */
public final class BruteTest {
    private static final Due DUE = new Due("BruteTest");
    private static int plansWithWays;
    private static int breaches;
    private static int fullRings;

    public static void main(String[] args) {
        for (int seed = 0; seed < 250; seed++) {
            halves(seed);
            plans(seed);
            breaches(seed);
            between(seed);
            echoes(seed);
            nearest(seed);
            winter(seed);
            land(seed);
            floors(seed);
        }
        for (int seed = 0; seed < 60; seed++) {
            leaks(seed);
        }
        howLong();
        DUE.is("plans that had a way", plansWithWays > 50 ? 1 : 0, 1);
        DUE.is("breaches", breaches > 30 ? 1 : 0, 1);
        DUE.is("full rings", fullRings > 100 ? 1 : 0, 1);
        DUE.end();
    }

    /** The same rooms each time for a seed: some CAVERNS, STEPS, FALLS and YEARS. */
    private static SaltRooms rooms(int seed) {
        Dice d = new Dice(seed);
        String[] texts = {"s30", "d930", "(s1d91d51h1s1)6", "(s2d41)10", "(d12d92s2)5", "s2(d814)2"};
        SaltRooms x = Due.rooms(texts[d.from(0, texts.length - 1)]);
        x.set(2, d.from(0, 12));
        x.set(3, d.from(1, 3));
        x.set(1, d.from(5, 99));
        x.set(0, d.from(0, 5));
        x.law(d.from(0, 9), d.from(0, 99));
        int caverns = d.from(1, 4);
        for (int i = 0; i < caverns; i++) {
            int roof = d.from(0, 22);
            x.cavern(i * 40 + d.from(0, 30), roof, roof + d.from(0, 7));
        }
        for (int i = d.from(5, 60); i > 0; i--) {
            int c = d.from(0, caverns - 1);
            if (d.one(2)) {
                x.string(c, ringOf(x, c, d), ringOf(x, c, d), d.one(3) ? ringOf(x, c, d) : roofOf(x, c));
            }
            if (d.one(8)) {
                x.fall(c, ringOf(x, c, d));
                x.mend(c);
            }
            x.step(c, d.from(1, 99));
        }
        return x;
    }

    private static int roofOf(SaltRooms x, int c) {
        return Integer.numberOfTrailingZeros(x.hidden(c, 0));
    }

    private static int ringsOf(SaltRooms x, int c) {
        return Integer.bitCount(x.hidden(c, 0));
    }

    private static int ringOf(SaltRooms x, int c, Dice d) {
        return roofOf(x, c) + d.from(0, ringsOf(x, c) - 1);
    }

    private static int allSizes(SaltRooms x, int c) {
        int sum = 0;
        for (int i = 0; i < ringsOf(x, c); i++) {
            sum += x.ring(c, roofOf(x, c) + i, 0);
        }
        return sum;
    }

    private static void halves(int seed) {
        SaltRooms x = rooms(seed);
        Dice d = new Dice(seed + 900);
        x.set(2, 0);
        for (int c = 0; c < x.count(1); c++) {
            int n = 2 * d.from(1, 49);
            int answer = x.half(c, n);
            if (answer == -3) {
                continue;
            }
            int steps = 0;
            steps += x.step(c, n) >= 0 ? 1 : 0;
            int once = allSizes(x, c);
            x.undo();
            steps += x.step(c, n / 2) >= 0 ? 1 : 0;
            steps += x.step(c, n / 2) >= 0 ? 1 : 0;
            if (steps == 3) {
                DUE.is("half by three steps, seed " + seed, answer, Math.abs(once - allSizes(x, c)));
            }
        }
    }

    private static void plans(int seed) {
        SaltRooms x = rooms(seed);
        Dice d = new Dice(seed + 1700);
        int c = d.from(0, x.count(1) - 1);
        int choices = d.from(1, 4);
        int[][] told = new int[choices][];
        for (int i = 0; i < choices; i++) {
            told[i] = new int[] {ringOf(x, c, d), ringOf(x, c, d), d.from(1, 99)};
            x.choice(told[i][0], told[i][1], told[i][2]);
        }
        int[] aims = new int[30];
        for (int i = 0; i < 30; i++) {
            if (d.one(2)) {
                aims[i] = d.from(1, 700);
                x.aim(i, aims[i]);
            }
        }
        for (int m = 1; m <= 4; m++) {
            int least = x.plan(c, m, 0);
            if (least == -3) {
                return;
            }
            int[] way = new int[m];
            int[] best = new int[m + 1];
            best[0] = -9;
            tryAll(x, c, told, aims, way, 0, best);
            DUE.is("plan of " + m + ", seed " + seed, least, best[0]);
            plansWithWays += least == -9 ? 0 : 1;
            for (int i = 0; i < 5; i++) {
                int want = least == -9 || i >= m ? -9 : best[i + 1];
                DUE.is("choice " + i + " of " + m + ", seed " + seed, x.plan(c, m, i + 1), want);
            }
        }
    }

    private static void tryAll(SaltRooms x, int c, int[][] told, int[] aims, int[] way, int depth, int[] best) {
        if (depth == way.length) {
            int sum = 0;
            for (int i = 0; i < ringsOf(x, c); i++) {
                int level = roofOf(x, c) + i;
                sum += aims[level] == 0 ? 0 : Math.abs(x.ring(c, level, 0) - aims[level]);
            }
            if (best[0] == -9 || sum < best[0]) {
                best[0] = sum;
                System.arraycopy(way, 0, best, 1, way.length);
            }
            return;
        }
        for (int i = 0; i < told.length; i++) {
            way[depth] = i;
            if (x.string(c, told[i][0], told[i][1], x.of(c, 14)) != 1) {
                continue;
            }
            if (x.step(c, told[i][2]) >= 0) {
                tryAll(x, c, told, aims, way, depth + 1, best);
                x.undo();
            }
            x.undo();
        }
    }

    private static void breaches(int seed) {
        for (int way = 0; way < 2; way++) {
            SaltRooms x = rooms(seed);
            int c = new Dice(seed + 2300).from(0, x.count(1) - 1);
            int most = x.of(c, 9);
            int gas = Math.max(1, x.of(c, 4)) * (most + 1) - 1 - new Dice(seed + 2400).from(0, 40);
            if (gas < 1 || x.fill(c, true, gas, true) != gas || x.close(c) != 1) {
                return;
            }
            int answer = x.breach(c, way == 1);
            int low = x.set(0, 0);
            int high = x.set(1, 0);
            x.set(1, way == 1 ? low : high);
            x.set(0, way == 1 ? low : high);
            int found = -9;
            for (int year = 1; year <= 60 && found < 0; year++) {
                x.years(1);
                found = x.of(c, 5) > most ? year : -9;
            }
            breaches += found > 0 ? 1 : 0;
            DUE.is("breach by years, seed " + seed, answer, found);
        }
    }

    /** Without GAS a RING creeps by years as BETWEEN tells, as long as it is not FULL. */
    private static void between(int seed) {
        SaltRooms x = rooms(seed);
        Dice d = new Dice(seed + 3100);
        int c = d.from(0, x.count(1) - 1);
        int level = ringOf(x, c, d);
        int n = d.from(1, 20);
        int low = x.between(c, level, n, true);
        int high = x.between(c, level, n, false);
        if (x.of(c, 0) == 4 || low < 0) {
            return;
        }
        DUE.is("by HIGH it is not above, seed " + seed, high <= low ? 1 : 0, 1);
        int rate = x.set(0, 0);
        x.set(0, rate);
        x.years(n);
        if (x.ring(c, level, 2) == 0) {
            DUE.is("between by years, seed " + seed, x.ring(c, level, 0), low);
        }
    }

    private static void echoes(int seed) {
        SaltRooms x = rooms(seed);
        Dice d = new Dice(seed + 4100);
        int c = d.from(0, x.count(1) - 1);
        int roof = roofOf(x, c);
        int rings = ringsOf(x, c);
        int tools = d.from(0, (1 << 30) - 1);
        int hidden = 0;
        for (int r = roof; r < roof + rings; r++) {
            boolean any = false;
            for (int t = roof; t < roof + rings; t++) {
                any |= (tools >> t & 1) == 1 && seen(x, c, t, r);
            }
            hidden |= any ? 0 : 1 << r;
        }
        DUE.is("hidden, seed " + seed, x.hidden(c, tools), hidden);
        int w = d.from(0, 6);
        int[] low = new int[30];
        int[] high = new int[30];
        for (int i = d.from(0, 8); i > 0; i--) {
            int r = ringOf(x, c, d);
            int doubt = d.from(0, 6);
            x.reading(c, r, 20, doubt);
            low[r] = low[r] == 0 ? 20 - doubt : Math.max(low[r], 20 - doubt);
            high[r] = high[r] == 0 ? 20 + doubt : Math.min(high[r], 20 + doubt);
        }
        int most = 0;
        int tool = -9;
        for (int t = roof; t < roof + rings; t++) {
            int count = 0;
            for (int r = roof; r < roof + rings; r++) {
                count += (low[r] == 0 || high[r] - low[r] > w) && seen(x, c, t, r) ? 1 : 0;
            }
            if (count > most) {
                most = count;
                tool = t;
            }
        }
        DUE.is("next echo, seed " + seed, x.nextEcho(c, w), tool);
    }

    private static boolean seen(SaltRooms x, int c, int tool, int ring) {
        if (x.ring(c, tool, 2) == 1 || x.ring(c, ring, 2) == 1) {
            return false;
        }
        double slope = tool == ring ? 0 : (double) x.ring(c, ring, 1) / Math.abs(ring - tool);
        for (int m = Math.min(tool, ring) + 1; m < Math.max(tool, ring); m++) {
            if (x.ring(c, m, 1) < slope * Math.abs(m - tool) - 1e-9) {
                return false;
            }
        }
        return true;
    }

    private static void nearest(int seed) {
        SaltRooms x = rooms(seed);
        for (int c = 0; c < x.count(1); c++) {
            int least = Integer.MAX_VALUE;
            int level = -9;
            int other = -9;
            for (int v = 29; v >= 0; v--) {
                for (int o = x.count(1) - 1; o >= 0; o--) {
                    int wall = x.wall(c, o, v);
                    if (wall > -1000000000 && wall <= least) {
                        least = wall;
                        level = v;
                        other = o;
                    }
                }
            }
            DUE.is("near's level, seed " + seed, x.near(c, 0), level);
            DUE.is("near's other, seed " + seed, x.near(c, 1), other);
        }
    }

    private static void winter(int seed) {
        Dice d = new Dice(seed + 5100);
        SaltRooms x = Build.strong();
        int caverns = d.from(1, 3);
        int[] oil = new int[caverns];
        int[] aDay = new int[caverns];
        for (int i = 0; i < caverns; i++) {
            Build.cavern(x, 300 * i, 3, 20, 20);
            oil[i] = d.from(0, 5);
            aDay[i] = d.from(0, 3);
            x.fill(i, false, oil[i], true);
            x.gives(i, aDay[i]);
        }
        if (d.one(4)) {
            x.giveUp(0);
            oil[0] = 0;
        }
        int[] needs = new int[3];
        for (int i = 0; i < 3; i++) {
            needs[i] = d.from(0, 5);
            x.need(i, needs[i]);
        }
        int[] best = {-1, 0, 0, 0};
        giveAll(oil, aDay, needs, 0, 0, new int[3], 0, best);
        DUE.is("given in all, seed " + seed, x.given(-1), best[0]);
        int sum = 0;
        for (int day = 0; day < 3; day++) {
            DUE.is("given on " + day + ", seed " + seed, x.given(day), best[day + 1]);
            sum += best[day + 1];
            DUE.is("proof of " + day + ", seed " + seed, proved(x, x.proof(day), caverns, aDay, needs, day), sum);
            for (int set = 0; set < x.proof(day); set++) {
                int less = proved(x, set, caverns, aDay, needs, day);
                DUE.is("no less set proves it, seed " + seed, less < 0 || less > sum ? 1 : 0, 1);
            }
        }
    }

    /** What a set proves; -1 if it has a CAVERN that is given up. */
    private static int proved(SaltRooms x, int set, int caverns, int[] aDay, int[] needs, int day) {
        int sum = 0;
        int give = 0;
        for (int i = 0; i < caverns; i++) {
            boolean in = (set >> i & 1) == 1;
            if (x.of(i, 0) == 4) {
                if (in) {
                    return -1;
                }
                continue;
            }
            sum += in ? 0 : x.of(i, 6);
            give += in ? aDay[i] : 0;
        }
        for (int i = 0; i <= day; i++) {
            sum += Math.min(needs[i], give);
        }
        return sum;
    }

    /** All ways to give, a CAVERN after the other on a DAY after the other; best: in all, then by DAYS. */
    private static void giveAll(int[] oil, int[] aDay, int[] needs, int day, int c, int[] got, int all, int[] best) {
        if (day == 3) {
            int better = Integer.compare(all, best[0]);
            for (int i = 0; i < 3 && better == 0; i++) {
                better = Integer.compare(got[i], best[i + 1]);
            }
            if (better > 0) {
                best[0] = all;
                System.arraycopy(got, 0, best, 1, 3);
            }
            return;
        }
        if (c == oil.length) {
            giveAll(oil, aDay, needs, day + 1, 0, got, all, best);
            return;
        }
        int most = Math.min(Math.min(oil[c], aDay[c]), needs[day] - got[day]);
        for (int give = 0; give <= most; give++) {
            oil[c] -= give;
            got[day] += give;
            giveAll(oil, aDay, needs, day, c + 1, got, all + give, best);
            oil[c] += give;
            got[day] -= give;
        }
    }

    private static void land(int seed) {
        SaltRooms x = rooms(seed);
        x.set(1, 99);
        x.set(0, 90);
        x.years(5);
        x.spread(20 + seed);
        int worst = 999;
        for (int mark = 998; mark >= 0; mark--) {
            worst = x.sinks(mark) >= x.sinks(worst) ? mark : worst;
        }
        DUE.is("worst, seed " + seed, x.sinks(-1), worst);
    }

    /** What fell lies on THE FLOOR or fills RINGS. */
    private static void floors(int seed) {
        SaltRooms x = rooms(seed);
        x.set(1, 99);
        x.set(0, 60);
        for (int i = 0; i < 4; i++) {
            for (int c = 0; c < x.count(1); c++) {
                floorOf(seed, x, c);
            }
            x.years(7);
        }
    }

    private static void floorOf(int seed, SaltRooms x, int c) {
        int roof = roofOf(x, c);
        int full = 0;
        int open = 0;
        int lowest = roof;
        for (int level = roof; level < roof + ringsOf(x, c); level++) {
            if (x.ring(c, level, 2) == 1) {
                full += x.ring(c, level, 0);
                fullRings++;
            } else {
                open += x.ring(c, level, 0);
                DUE.is("above a full ring, seed " + seed, level == roof || lowest == level - 1 ? 1 : 0, 1);
                lowest = level;
            }
        }
        DUE.is("what fell, seed " + seed, x.of(c, 2), x.of(c, 3) + full);
        DUE.is("room, seed " + seed, x.of(c, 4), open - x.of(c, 3));
        DUE.is("the lowest is not full, seed " + seed,
                lowest == roof || x.of(c, 3) < x.ring(c, lowest, 0) ? 1 : 0, 1);
        for (int what = 12; what <= 14; what++) {
            DUE.is("the string is not in full ones, seed " + seed, x.of(c, what) <= lowest ? 1 : 0, 1);
        }
    }

    private static void leaks(int seed) {
        Dice d = new Dice(seed + 6100);
        SaltRooms x = new SaltRooms();
        x.cavern(5, 3, 5);
        int tests = d.from(1, 4);
        int[][] told = new int[tests][];
        int truth = d.from(-30, 60);
        for (int i = 0; i < tests; i++) {
            int a = d.from(-20, 20);
            int b = Math.min(99, a + d.from(0, 8));
            int days = d.from(1, 12);
            int fell = Math.max(0, days * (truth + d.from(a, b)) + d.from(-4, 4));
            told[i] = new int[] {days, fell, d.from(0, 12), a, b};
            x.test(0, days, fell, told[i][2], a, b);
        }
        int least = 10000;
        int greatest = 10000;
        for (int leak = -9999; leak <= 9999; leak++) {
            boolean fits = true;
            for (int[] t : told) {
                boolean any = false;
                for (int made = t[3]; made <= t[4] && !any; made++) {
                    any = Math.abs(t[0] * (leak + made) - t[1]) <= t[2];
                }
                fits &= any;
            }
            if (fits) {
                least = least == 10000 ? leak : least;
                greatest = leak;
            }
        }
        DUE.is("least leak, seed " + seed, x.leak(0, 0), least);
        DUE.is("greatest leak, seed " + seed, x.leak(0, 1), greatest);
    }

    private static void howLong() {
        SaltRooms x = new SaltRooms();
        for (int apart = 0; apart < 40; apart++) {
            for (int doubt = 0; doubt < 300; doubt += 7) {
                int days = 1;
                while (days <= 999 && days * apart <= 2 * doubt) {
                    days++;
                }
                DUE.is("how long", x.howLong(apart, 0, doubt), days > 999 ? -9 : days);
            }
        }
    }
}

import java.util.ArrayList;
import java.util.Arrays;
import java.util.List;

/**
 * REFUSALS of each call: numbers at their least, their greatest, one beyond and at the ends of int, each with each, in
 * rooms of each kind. What is due is told by the order in the document; it is counted, once, and nothing else changes.
 */
public final class RefusalsTest {
    private static final Due DUE = new Due("RefusalsTest");
    private static final int MIN = Integer.MIN_VALUE;
    private static final int MAX = Integer.MAX_VALUE;
    private static final int FAR = 1000000000;
    private static final long[] BYTES = {0, -1, Long.MIN_VALUE, Long.MAX_VALUE};
    private static final int[] CAVERN = {0, 1, 2, 3, 4, 5, -1, MIN, MAX};
    private static final int[] BOTH = {0, 1};
    // How often each REFUSAL was due, alone or with others behind it.
    private static final int[] SEEN = new int[8];

    private interface Call {
        int make(SaltRooms x, int[] a);
    }

    /** The REFUSAL that is due, 0 if none is. */
    private interface Law {
        int due(Scenes s, int[] a);
    }

    /** A call, what it is given (of each number the first fits, wherever there is a CAVERN), and its REFUSALS. */
    private record Row(String name, Call call, Law law, int[]... values) {
    }

    public static void main(String[] args) {
        List<Row> rows = new ArrayList<>();
        ofBeds(rows);
        ofWashing(rows);
        ofYears(rows);
        ofKeeping(rows);
        ofWalls(rows);
        ofEchoes(rows);
        ofTests(rows);
        ofWinter(rows);
        ofPlans(rows);
        for (int scene = 0; scene < Scenes.MANY; scene++) {
            Scenes s = new Scenes(scene);
            asTold(s);
            for (Row row : rows) {
                look(s, row);
            }
        }
        DUE.is("calls of the face, but for count, beds, noChoices and undo", rows.size(), 39);
        int[] due = {1, 1, 1, 1, 0, 1, 1};
        for (int k = 1; k < 8; k++) {
            DUE.is("REFUSAL -" + k + " was due", Math.min(SEEN[k], 1), due[k - 1]);
        }
        withoutNumbers();
        DUE.end();
    }

    private static int[] v(int... values) {
        return values;
    }

    // ---- the rows ----

    private static void ofBeds(List<Row> rows) {
        rows.add(new Row("feed", (x, a) -> x.feed(a[0], BYTES[a[1]]),
                (s, a) -> a[0] < 1 ? -4 : a[0] > 8 || s.bytes + (long) a[0] > 60 ? -6 : 0,
                v(1, 0, -1, MIN, 2, 6, 7, 8, 9, MAX), v(0, 1, 2, 3)));
        rows.add(new Row("bed", (x, a) -> x.bed(a[0]), (s, a) -> level(a[0]) ? 0 : -1, v(0, 29, 30, -1, MIN, MAX)));
        rows.add(new Row("cavern", (x, a) -> x.cavern(a[0], a[1], a[2]), (s, a) -> {
            if (!level(a[1]) || !level(a[2]) || a[1] > a[2]) {
                return -1;
            }
            return a[0] < 0 ? -4 : a[0] > 999 || s.roofs.length == 5 ? -6 : 0;
        }, v(0, 999, -1, 1000, MIN, MAX), v(0, 1, 29, -1, 30, MIN, MAX), v(0, 1, 29, -1, 30, MIN, MAX)));
        rows.add(new Row("string", (x, a) -> x.string(a[0], a[1], a[2], a[3]), (s, a) -> {
            if (!s.open(a[0], a[1]) || !s.open(a[0], a[2]) || !s.open(a[0], a[3])) {
                return -1;
            }
            return s.washable(a[0]) ? 0 : -3;
        }, CAVERN, v(6, 10, 11, 12, 2, 4, 7, 9), v(6, 10, 12, 13, 3, 5, -1), v(6, 10, 12, 14, 8, 30, MIN, MAX)));
    }

    private static boolean level(int level) {
        return level >= 0 && level <= 29;
    }

    /** The REFUSAL of a number that is not from least to most. */
    private static int among(int number, int least, int most) {
        return number < least ? -4 : number > most ? -6 : 0;
    }

    private static boolean mayStep(Scenes s, int cavern) {
        return s.washable(cavern) && s.cut != cavern;
    }

    private static void ofWashing(List<Row> rows) {
        rows.add(new Row("law", (x, a) -> x.law(a[0], a[1]),
                (s, a) -> a[0] < 0 || a[0] > 9 ? -1 : among(a[1], 0, 99),
                v(0, 9, -1, 10, MIN, MAX), v(0, 99, -1, 100, MIN, MAX)));
        rows.add(new Row("step", (x, a) -> x.step(a[0], a[1]), (s, a) -> {
            if (!s.has(a[0])) {
                return -1;
            }
            if (!mayStep(s, a[0])) {
                return -3;
            }
            // Of FEW's first, 3 leave SIZE 3, 4 make REACH 2 of it; its second does not wash LEVEL 6.
            boolean thin = s.scene == Scenes.FEW && a[0] == 0 && a[1] >= 4;
            return among(a[1], 1, 99) != 0 ? among(a[1], 1, 99) : thin ? -7 : 0;
        }, CAVERN, v(1, 3, 4, 99, 0, 100, -1, MIN, MAX)));
        rows.add(new Row("half", (x, a) -> x.half(a[0], a[1]), (s, a) -> {
            if (!s.has(a[0])) {
                return -1;
            }
            return !mayStep(s, a[0]) || (a[1] & 1) == 1 ? -3 : among(a[1], 1, 99);
        }, CAVERN, v(2, 98, 1, 99, 0, 100, 101, -1, -2, MIN, MIN + 1, MAX, MAX - 1)));
        rows.add(new Row("ring", (x, a) -> x.ring(a[0], a[1], a[2]),
                (s, a) -> !s.has(a[0], a[1]) ? -1 : a[2] < 0 || a[2] > 3 ? -2 : 0,
                CAVERN, v(6, 10, 12, 13, 4, 2, 14, -1, 30, MIN, MAX), v(0, 3, 4, -1, MIN, MAX)));
        rows.add(new Row("of", (x, a) -> x.of(a[0], a[1]),
                (s, a) -> !s.has(a[0]) ? -1 : a[1] < 0 || a[1] > 14 ? -2 : 0,
                CAVERN, v(0, 1, 4, 5, 11, 12, 14, 15, -1, MIN, MAX)));
    }

    private static void ofYears(List<Row> rows) {
        rows.add(new Row("years", (x, a) -> x.years(a[0]),
                (s, a) -> a[0] < 1 ? -4 : a[0] > 20 || s.year + a[0] > 60 ? -6 : 0,
                v(1, 19, 20, 21, 0, -1, MIN, MAX)));
        rows.add(new Row("set", (x, a) -> x.set(a[0], a[1]), (s, a) -> {
            if (a[0] < 0 || a[0] > 3) {
                return -2;
            }
            int fault = among(a[1], a[0] == 3 ? 1 : 0, a[0] == 2 ? 999 : 99);
            return fault != 0 ? fault : a[0] == 0 && a[1] > 5 || a[0] == 1 && a[1] < 2 ? -3 : 0;
        }, v(0, 1, 2, 3, 4, -1, MIN, MAX), v(2, 5, 6, 1, 0, -1, 99, 100, 999, 1000, MIN, MAX)));
        rows.add(new Row("between", (x, a) -> x.between(a[0], a[1], a[2], a[3] == 1),
                (s, a) -> !s.open(a[0], a[1]) ? -1 : among(a[2], 0, 60),
                CAVERN, v(6, 10, 11, 12, 13, 2, -1, MIN, MAX), v(0, 60, 61, -1, MIN, MAX), BOTH));
        rows.add(new Row("spread", (x, a) -> x.spread(a[0]), (s, a) -> among(a[0], 0, 999),
                v(0, 999, 1000, -1, MIN, MAX)));
        rows.add(new Row("sinks", (x, a) -> x.sinks(a[0]), (s, a) -> a[0] < -1 || a[0] > 999 ? -1 : 0,
                v(0, -1, 999, 1000, -2, MIN, MAX)));
        rows.add(new Row("close", (x, a) -> x.close(a[0]),
                (s, a) -> !s.has(a[0]) ? -1 : s.states[a[0]] > 2 ? -3 : 0, CAVERN));
        rows.add(new Row("giveUp", (x, a) -> x.giveUp(a[0]),
                (s, a) -> !s.has(a[0]) ? -1 : s.states[a[0]] > 3 ? -3 : 0, CAVERN));
        rows.add(new Row("breach", (x, a) -> x.breach(a[0], a[1] == 1),
                (s, a) -> !s.has(a[0]) ? -1 : s.states[a[0]] != 3 ? -3 : 0, CAVERN, BOTH));
    }

    private static void ofKeeping(List<Row> rows) {
        rows.add(new Row("fill", (x, a) -> x.fill(a[0], a[1] == 1, a[2], a[3] == 1), RefusalsTest::dueOfFill,
                CAVERN, BOTH, v(1, 2, 3, 14, 15, 18, 19, 23, 24, 30, 31, 90, 91, 174, 175, 427, 428, 429, 430, 500, 501,
                599, 600, 601, 699, 700, 1100, 1200, 1201, 4200, 4201, 99999, 100000, 98799, 98800, 0, -1, MIN, MAX), BOTH));
        rows.add(new Row("owner", (x, a) -> x.owner(a[0]), (s, a) -> a[0] < 0 || a[0] > 5 ? -1 : 0,
                v(0, 5, 6, -1, MIN, MAX)));
        rows.add(new Row("has", (x, a) -> x.has(a[0], a[1], a[2] == 1),
                (s, a) -> a[0] < 0 || a[0] > 5 || a[2] == 0 && a[1] != -1 && !s.has(a[1]) ? -1 : 0,
                v(0, 5, 6, -1, MIN, MAX), v(-1, -2, 0, 1, 4, 5, MIN, MAX), BOTH));
    }

    private static int dueOfFill(Scenes s, int[] a) {
        int cavern = a[0];
        boolean gas = a[1] == 1;
        boolean in = a[3] == 1;
        if (!s.has(cavern)) {
            return -1;
        }
        int there = gas ? s.gases[cavern] : s.oils[cavern];
        if (s.states[cavern] > 2 || !in && there < a[2]) {
            return -3;
        }
        int fault = among(a[2], 1, 99999);
        if (fault != 0) {
            return fault;
        }
        int then = in ? there + a[2] : there - a[2];
        if (then > 99999 || in && !gas && (then > s.rooms[cavern] - 1 || s.scene == Scenes.FULL && cavern == 0)) {
            return -6;
        }
        int gasThen = gas ? then : s.gases[cavern];
        int oilThen = gas ? s.oils[cavern] : then;
        int push = Math.min(99, gasThen / Math.max(1, s.rooms[cavern] - oilThen));
        int roof = s.roofs[cavern];
        return push > Math.max(1, roof) || !in && gasThen > 0 && push < roof / 5 ? -7 : 0;
    }

    private static void ofWalls(List<Row> rows) {
        rows.add(new Row("wall", (x, a) -> far(x.wall(a[0], a[1], a[2])),
                (s, a) -> a[0] == a[1] || !s.has(a[0], a[2]) || !s.has(a[1], a[2]) ? -1 : 0,
                CAVERN, CAVERN, v(6, 2, 3, 4, 7, 8, 10, 11, 12, -1, 30, MIN, MAX)));
        rows.add(new Row("near", (x, a) -> x.near(a[0], a[1]),
                (s, a) -> !s.has(a[0]) ? -1 : a[1] < 0 || a[1] > 1 ? -2 : 0, CAVERN, v(0, 1, 2, -1, MIN, MAX)));
        // None is a SHELF: FEW's are all of SIZE 1, in STATES the one that was has fallen.
        rows.add(new Row("fall", (x, a) -> x.fall(a[0], a[1]), (s, a) -> !s.has(a[0], a[1]) ? -1 : -3,
                CAVERN, v(6, 2, 3, 4, 5, 7, 8, 9, 10, 11, 12, 13, 14, -1, 30, MIN, MAX)));
        rows.add(new Row("mend", (x, a) -> x.mend(a[0]), (s, a) -> !s.has(a[0]) ? -1 : s.cut == a[0] ? 0 : -3, CAVERN));
    }

    private static void ofEchoes(List<Row> rows) {
        rows.add(new Row("hidden", (x, a) -> x.hidden(a[0], a[1]), (s, a) -> s.has(a[0]) ? 0 : -1,
                CAVERN, v(0, 1 << 29, 1 << 30, -1, MIN, MAX)));
        rows.add(new Row("reading", (x, a) -> x.reading(a[0], a[1], a[2], a[3]), (s, a) -> {
            if (!s.has(a[0], a[1])) {
                return -1;
            }
            return a[2] < 0 || a[3] < 0 ? -4 : a[2] > 999 || a[3] > 99 || s.readings == 40 ? -6 : 0;
        }, CAVERN, v(6, 10, 12, 13, 2, -1), v(0, 999, 1000, -1, MIN, MAX), v(0, 99, 100, -1, MIN, MAX)));
        rows.add(new Row("bounds", (x, a) -> far(x.bounds(a[0], a[1], a[2])),
                (s, a) -> !s.has(a[0], a[1]) ? -1 : a[2] < 0 || a[2] > 1 ? -2 : 0,
                CAVERN, v(6, 5, 10, 13, 2, 9, -1, 30, MIN, MAX), v(0, 1, 2, -1, MIN, MAX)));
        rows.add(new Row("quarrel", (x, a) -> x.quarrel(a[0]), (s, a) -> s.has(a[0]) ? 0 : -1, CAVERN));
        rows.add(new Row("nextEcho", (x, a) -> x.nextEcho(a[0], a[1]),
                (s, a) -> !s.has(a[0]) ? -1 : among(a[1], 0, 999), CAVERN, v(0, 999, 1000, -1, MIN, MAX)));
    }

    /** Where answers may be below 0 REFUSALS are 1000000000 less; others stay what they are. */
    private static int far(int answer) {
        return answer < -FAR ? answer + FAR : Math.max(answer, 0);
    }

    private static void ofTests(List<Row> rows) {
        rows.add(new Row("test", (x, a) -> x.test(a[0], a[1], a[2], a[3], a[4], a[5]), (s, a) -> {
            if (!s.has(a[0])) {
                return -1;
            }
            if (a[1] < 1 || a[2] < 0 || a[3] < 0 || a[4] < -99 || a[5] < -99 || a[5] < a[4]) {
                return -4;
            }
            boolean above = a[1] > 99 || a[2] > 9999 || a[3] > 99 || a[4] > 99 || a[5] > 99;
            return above || s.tests[a[0]] == 6 ? -6 : 0;
        }, CAVERN, v(1, 99, 100, 0, -1, MIN, MAX), v(0, 9999, 10000, -1, MIN, MAX), v(0, 99, 100, -1, MIN, MAX),
                v(0, -99, 99, 100, -100, MIN, MAX), v(0, 1, -1, -99, 99, 100, -100, MIN, MAX)));
        // LEAK's answer may be below 0, where it is no REFUSAL.
        rows.add(new Row("leak", (x, a) -> {
            int before = x.count(11) + x.count(12);
            int answer = x.leak(a[0], a[1]);
            return before == x.count(11) + x.count(12) ? 0 : answer;
        }, (s, a) -> !s.has(a[0]) ? -1 : a[1] < 0 || a[1] > 1 ? -2 : 0, CAVERN, v(0, 1, 2, -1, MIN, MAX)));
        rows.add(new Row("howLong", (x, a) -> x.howLong(a[0], a[1], a[2]), (s, a) -> {
            boolean below = a[0] < 0 || a[1] < 0 || a[2] < 0;
            return below ? -4 : a[0] > 999 || a[1] > 999 || a[2] > 9999 ? -6 : 0;
        }, v(0, 999, 1000, -1, MIN, MAX), v(0, 999, 1000, -1, MIN, MAX), v(0, 9999, 10000, -1, MIN, MAX)));
    }

    private static void ofWinter(List<Row> rows) {
        rows.add(new Row("need", (x, a) -> x.need(a[0], a[1]),
                (s, a) -> a[0] < 0 || a[0] > 11 ? -1 : among(a[1], 0, 999),
                v(0, 11, 12, -1, MIN, MAX), v(0, 999, 1000, -1, MIN, MAX)));
        rows.add(new Row("gives", (x, a) -> x.gives(a[0], a[1]), (s, a) -> !s.has(a[0]) ? -1 : among(a[1], 0, 999),
                CAVERN, v(0, 999, 1000, -1, MIN, MAX)));
        rows.add(new Row("given", (x, a) -> x.given(a[0]), (s, a) -> a[0] < -1 || a[0] > 11 ? -1 : 0,
                v(0, -1, 11, 12, -2, MIN, MAX)));
        rows.add(new Row("proof", (x, a) -> x.proof(a[0]), (s, a) -> a[0] < 0 || a[0] > 11 ? -1 : 0,
                v(0, 11, 12, -1, MIN, MAX)));
    }

    private static void ofPlans(List<Row> rows) {
        rows.add(new Row("aim", (x, a) -> x.aim(a[0], a[1]), (s, a) -> !level(a[0]) ? -1 : among(a[1], 0, 99999),
                v(0, 29, 30, -1, MIN, MAX), v(0, 99999, 100000, -1, MIN, MAX)));
        rows.add(new Row("choice", (x, a) -> x.choice(a[0], a[1], a[2]), (s, a) -> {
            if (!level(a[0]) || !level(a[1])) {
                return -1;
            }
            return a[2] < 1 ? -4 : a[2] > 99 || s.choices == 5 ? -6 : 0;
        }, v(0, 29, 30, -1, MIN, MAX), v(0, 29, 30, -1, MIN, MAX), v(1, 99, 100, 0, -1, MIN, MAX)));
        rows.add(new Row("plan", (x, a) -> x.plan(a[0], a[1], a[2]), (s, a) -> {
            if (!s.has(a[0])) {
                return -1;
            }
            return a[2] < 0 || a[2] > 5 ? -2 : !mayStep(s, a[0]) ? -3 : among(a[1], 1, 5);
        }, CAVERN, v(1, 5, 6, 0, -1, MIN, MAX), v(0, 5, 6, -1, MIN, MAX)));
    }

    // ---- how they are looked at ----

    /** That rooms are as the rows take them to be. */
    private static void asTold(Scenes s) {
        SaltRooms x = s.make();
        int[] due = {s.year, s.roofs.length, s.bytes, s.choices, s.acts};
        for (int what = 0; what < due.length; what++) {
            DUE.is("scene " + s.scene + ": count(" + what + ")", x.count(what), due[what]);
        }
        DUE.is("scene " + s.scene + ": READINGS", x.count(7), s.readings);
        for (int c = 0; c < s.roofs.length; c++) {
            int[] told = {s.states[c], s.rooms[c], s.oils[c], s.gases[c], s.cut == c ? 1 : 0};
            int[] whats = {0, 4, 6, 7, 11};
            for (int i = 0; i < whats.length; i++) {
                DUE.is("scene " + s.scene + ": of(" + c + ", " + whats[i] + ")", x.of(c, whats[i]), told[i]);
            }
            for (int level = 0; level < 30; level++) {
                int full = !s.has(c, level) ? -1 : s.open(c, level) ? 0 : 1;
                DUE.is("scene " + s.scene + ": ring(" + c + ", " + level + ", 2)", x.ring(c, level, 2), full);
            }
        }
    }

    /** All numbers with all, if these are not too many; or all pairs of them, for each first one. */
    private static void look(Scenes s, Row row) {
        long all = 1;
        for (int[] values : row.values) {
            all *= values.length;
        }
        Refused refused = new Refused(s, row);
        int[] at = new int[row.values.length];
        if (all <= 6000) {
            lookAll(refused, at, 0);
        } else {
            for (at[0] = 0; at[0] < row.values[0].length; at[0]++) {
                lookPairs(refused, at);
            }
        }
        refused.end();
    }

    private static void lookAll(Refused refused, int[] at, int i) {
        if (i == at.length) {
            refused.look(at);
            return;
        }
        for (at[i] = 0; at[i] < refused.row.values[i].length; at[i]++) {
            lookAll(refused, at, i + 1);
        }
    }

    private static void lookPairs(Refused refused, int[] at) {
        for (int i = 1; i < at.length; i++) {
            for (int j = i + 1; j < at.length; j++) {
                for (at[i] = 0; at[i] < refused.row.values[i].length; at[i]++) {
                    for (at[j] = 0; at[j] < refused.row.values[j].length; at[j]++) {
                        refused.look(at);
                    }
                }
                at[i] = 0;
                at[j] = 0;
            }
        }
    }

    /** One object that meets all REFUSALS of a call, each of which leaves it as it is. */
    private static final class Refused {
        private final Scenes scene;
        private final Row row;
        private final SaltRooms x;
        private final String before;
        private final int[] counted = new int[8];

        Refused(Scenes scene, Row row) {
            this.scene = scene;
            this.row = row;
            x = scene.make();
            before = Whole.of(x);
            for (int k = 1; k < 8; k++) {
                counted[k] = x.count(10 + k);
            }
        }

        void look(int[] at) {
            int[] a = new int[at.length];
            for (int i = 0; i < at.length; i++) {
                a[i] = row.values[i][at[i]];
            }
            int due = row.law.due(scene, a);
            if (due == 0) {
                letThrough(a);
                return;
            }
            String name = "scene " + scene.scene + ": " + row.name + Arrays.toString(a);
            DUE.is(name, row.call.make(x, a), due);
            counted[-due]++;
            SEEN[-due]++;
            counts(name, x, counted);
            DUE.is(name + " changes nothing", before.equals(Whole.of(x)) ? 1 : 0, 1);
        }

        private void letThrough(int[] a) {
            SaltRooms y = scene.make();
            int[] were = new int[8];
            for (int k = 1; k < 8; k++) {
                were[k] = y.count(10 + k);
            }
            String name = "scene " + scene.scene + ": " + row.name + Arrays.toString(a);
            int answer = row.call.make(y, a);
            boolean low = answer < -9 || answer < 0 && answer > -9 && !row.name.equals("of");
            DUE.is(name + " is let through, not " + answer, low ? 1 : 0, 0);
            counts(name, y, were);
        }

        /** What may be UNDONE is as it was too. */
        void end() {
            SaltRooms twin = scene.make();
            for (int left = scene.acts; left > 0; left--) {
                DUE.is(row.name + " leaves ACTS", x.undo(), twin.undo());
                DUE.is(row.name + " leaves ACTS as they were", Sight.of(x).equals(Sight.of(twin)) ? 1 : 0, 1);
            }
            DUE.is(row.name + " makes no ACTS", x.undo(), -3);
        }
    }

    private static void counts(String name, SaltRooms x, int[] due) {
        for (int k = 1; k < 8; k++) {
            DUE.is(name + ": count(" + (10 + k) + ")", x.count(10 + k), due[k]);
        }
    }

    /** beds (there are CAVERNS), undo (there is no ACT), and count and noChoices, which refuse nothing. */
    private static void withoutNumbers() {
        for (int scene = 0; scene < Scenes.MANY; scene++) {
            Scenes s = new Scenes(scene);
            SaltRooms x = s.make();
            int[] due = new int[8];
            for (int k = 1; k < 8; k++) {
                due[k] = x.count(10 + k);
            }
            String before = Whole.of(x);
            if (s.roofs.length > 0) {
                DUE.is("scene " + scene + ": beds()", x.beds(), -3);
                due[3]++;
                counts("beds", x, due);
                DUE.is("scene " + scene + ": the TEXT stays", x.count(2), s.bytes);
            } else {
                DUE.is("scene " + scene + ": beds() of a FAULT", x.beds(), -20);
            }
            for (int what : new int[] {-1, 8, 10, 18, MIN, MAX}) {
                DUE.is("scene " + scene + ": count(" + what + ")", x.count(what), -9);
            }
            counts("count", x, due);
            DUE.is("beds and count change nothing", before.equals(Whole.of(x)) ? 1 : 0, 1);
            for (int i = 0; i < s.acts; i++) {
                DUE.is("scene " + scene + ": undo()", x.undo(), 1);
            }
            before = Whole.of(x);
            DUE.is("scene " + scene + ": undo()", x.undo(), -3);
            due[3]++;
            counts("undo", x, due);
            DUE.is("undo() changes nothing", before.equals(Whole.of(x)) ? 1 : 0, 1);
            DUE.is("scene " + scene + ": noChoices()", x.noChoices(), s.choices);
            DUE.is("scene " + scene + ": noChoices() again", x.noChoices(), 0);
            counts("noChoices", x, due);
        }
    }
}

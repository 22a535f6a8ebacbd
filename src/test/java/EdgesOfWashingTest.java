/** The edges that the document names under II: LAWS, STEPS, hard and dirty RINGS, THE FLOOR, FULL RINGS, HALF. */
public final class EdgesOfWashingTest {
    private static final Due DUE = new Due("EdgesOfWashingTest");
    private static final int MIN = Integer.MIN_VALUE;
    private static final int MAX = Integer.MAX_VALUE;
    private static int mostStrength;

    public static void main(String[] args) {
        lawsOfTenStrengths();
        lawsAtFirst();
        waterFrom1To99();
        lawsByHundredths();
        strengthsMeetTheirLaws();
        strengthIsNoneAtFirst();
        fromWaterOnToBrine();
        hardOnesLoseNothing();
        roofLosesHalf();
        tenthsThatStay();
        sizeAtMost();
        fullAtJustItsSize();
        fullOneByOne();
        roofIsNeverFull();
        stringsAreLifted();
        stepsOfEachState();
        stepBehindAWall();
        stepByStep();
        halfOfEvenNumbers();
        ringAndOf();
        DUE.end();
    }

    private static int hung(SaltRooms x, int cavern) {
        return x.of(cavern, 12) * 10000 + x.of(cavern, 13) * 100 + x.of(cavern, 14);
    }

    private static void sizes(String when, SaltRooms x, int cavern, int roof, int... sizes) {
        for (int i = 0; i < sizes.length; i++) {
            DUE.is(when + ": ring " + (roof + i), x.ring(cavern, roof + i, 0), sizes[i]);
        }
    }

    /** "LAWS for STRENGTH 0 .. 9, 10 .. 19, .. 90 .. 99: 0 .. 99". */
    private static void lawsOfTenStrengths() {
        SaltRooms x = new SaltRooms();
        for (int k = 0; k < 10; k++) {
            DUE.is("law(" + k + ", -1)", x.law(k, -1), -4);
            DUE.is("law(" + k + ", 100)", x.law(k, 100), -6);
            DUE.is("law(" + k + ", least)", x.law(k, MIN), -4);
            DUE.is("law(" + k + ", greatest)", x.law(k, MAX), -6);
            DUE.is("law(" + k + ", 99)", x.law(k, 99), 90 - 10 * k);
            DUE.is("law(" + k + ", 0)", x.law(k, 0), 99);
            DUE.is("law(" + k + ", k)", x.law(k, k), 0);
        }
        for (int k : new int[] {-1, 10, MIN, MAX}) {
            DUE.is("law(" + k + ", -1)", x.law(k, -1), -1);
            DUE.is("law(" + k + ", 100)", x.law(k, 100), -1);
            DUE.is("law(" + k + ", 5)", x.law(k, 5), -1);
        }
        for (int k = 0; k < 10; k++) {
            DUE.is("each has its own", x.law(k, 50), k);
        }
        DUE.is("count(11)", x.count(11), 12);
        DUE.is("count(14)", x.count(14), 20);
        DUE.is("count(16)", x.count(16), 20);
    }

    private static void lawsAtFirst() {
        SaltRooms x = new SaltRooms();
        for (int k = 0; k < 10; k++) {
            DUE.is("law " + k, x.law(k, 90 - 10 * k), 90 - 10 * k);
        }
    }

    /** "n (1 .. 99) of WATER". */
    private static void waterFrom1To99() {
        SaltRooms x = new SaltRooms();
        x.cavern(5, 10, 12);
        for (int n : new int[] {0, -1, MIN}) {
            DUE.is("step(0, " + n + ")", x.step(0, n), -4);
        }
        for (int n : new int[] {100, 101, MAX}) {
            DUE.is("step(0, " + n + ")", x.step(0, n), -6);
        }
        DUE.is("none was one", x.of(0, 0) + x.count(4), 0);
        DUE.is("step(0, 1)", x.step(0, 1), 0);
        DUE.is("washed", x.of(0, 0), 1);
        DUE.is("step(0, 99)", x.step(0, 99), 202);
        DUE.is("count(14)", x.count(14), 3);
        DUE.is("count(16)", x.count(16), 3);
    }

    /** "it loses w: n times LAW of STRENGTH .. by 100, cut": each n with LAWS at and around what makes one more. */
    private static void lawsByHundredths() {
        for (int law : new int[] {0, 1, 2, 33, 49, 50, 51, 90, 98, 99}) {
            SaltRooms x = new SaltRooms();
            x.law(0, law);
            x.cavern(5, 10, 11);
            x.string(0, 11, 11, 10);
            int size = 1;
            for (int n = 1; n <= 99; n++) {
                int w = 0;
                while (100 * (w + 1) <= n * law) {
                    w++;
                }
                DUE.is("LAW " + law + ", n " + n, x.step(0, n), w);
                size += w;
                DUE.is("SIZE", x.ring(0, 11, 0), size);
            }
            DUE.is("all that was OUT", x.of(0, 1), size - 1);
        }
    }

    /** One STEP as the document tells it, in salt, upward from the lowest of 30 LEVELS: what each LEVEL loses. */
    private static int[] told(int[] laws, int n) {
        int[] lost = new int[30];
        int out = 0;
        int strength = 0;
        for (int level = 29; level >= 0; level--) {
            int w = n * laws[strength / 10] / 100;
            lost[level] = level == 0 ? w / 2 : w;
            out += lost[level];
            strength = Math.min(100 * out / (out + 4 * n), 99);
            mostStrength = Math.max(mostStrength, strength);
        }
        return lost;
    }

    /** STRENGTHS go up LEVEL by LEVEL past each ten; the LAW of each ten is told apart from the others. */
    private static void strengthsMeetTheirLaws() {
        Dice d = new Dice(77);
        for (int run = 0; run < 400; run++) {
            SaltRooms x = new SaltRooms();
            int[] laws = new int[10];
            for (int k = 0; k < 10; k++) {
                laws[k] = run % 4 == 0 ? 99 - k : run % 4 == 1 ? 90 + (k * 7 + run) % 10 : d.from(run % 4 == 2 ? 0 : 60, 99);
                x.law(k, laws[k]);
            }
            x.cavern(5, 0, 29);
            int n = run < 100 ? 99 - run % 10 : d.from(1, 99);
            int[] lost = told(laws, n);
            int all = 0;
            x.step(0, n);
            for (int level = 0; level < 30; level++) {
                DUE.is("run " + run + ", LEVEL " + level, x.ring(0, level, 0), 1 + lost[level]);
                all += lost[level];
            }
            DUE.is("OUT", x.of(0, 1), all);
        }
        DUE.is("STRENGTHS of 80 and more were met", mostStrength >= 80 ? 1 : 0, 1);
    }

    /** "STRENGTH is 0" at first of each STEP: what was OUT in another one counts nothing. */
    private static void strengthIsNoneAtFirst() {
        SaltRooms x = new SaltRooms();
        for (int k = 1; k < 10; k++) {
            x.law(k, 0);
        }
        x.law(0, 99);
        x.cavern(5, 10, 12);
        for (int i = 1; i <= 5; i++) {
            DUE.is("only the first loses", x.step(0, 99), 98);
            sizes("step " + i, x, 0, 10, 1, 1, 1 + 98 * i);
        }
    }

    /** "from the LEVEL of WATER on to that of BRINE, LEVEL by LEVEL (both too)": each way of four LEVELS. */
    private static void fromWaterOnToBrine() {
        for (int water = 10; water <= 13; water++) {
            for (int brine = 10; brine <= 13; brine++) {
                SaltRooms x = new SaltRooms();
                x.law(0, 90);
                x.law(1, 40);
                x.cavern(5, 10, 13);
                x.string(0, water, brine, 10);
                x.step(0, 99);
                for (int level = 10; level <= 13; level++) {
                    boolean met = level >= Math.min(water, brine) && level <= Math.max(water, brine);
                    DUE.is(water + " to " + brine + ": " + level, x.ring(0, level, 0) > 1 ? 1 : 0, met ? 1 : 0);
                }
                // The first meets STRENGTH 0, all others more.
                DUE.is("the first", x.ring(0, water, 0), water == 10 ? 1 + 44 : 1 + 89);
            }
        }
    }

    /** "of a hard one nothing": nothing stays, too, and STRENGTH is as it was. */
    private static void hardOnesLoseNothing() {
        SaltRooms x = Due.rooms("s10h1s1h18");
        x.cavern(5, 9, 12);
        DUE.is("step(0, 99)", x.step(0, 99), 89 + 39);
        sizes("two of them", x, 0, 9, 40, 1, 90, 1);
        DUE.is("nothing fell", x.of(0, 2), 0);
        SaltRooms y = Due.rooms("h30");
        y.cavern(5, 0, 29);
        DUE.is("all of them", y.step(0, 99), 0);
        DUE.is("ROOM", y.of(0, 4), 30);
        DUE.is("a hard ROOF alone", y.cavern(100, 3, 3) + y.step(1, 99), 1);
    }

    /** "at the ROOF half of that (cut)": of 0 .. 98. */
    private static void roofLosesHalf() {
        for (int w = 0; w <= 98; w++) {
            SaltRooms x = Build.strong();
            x.cavern(5, 10, 10);
            DUE.is("half of " + w, x.step(0, w + 1), w / 2);
            DUE.is("SIZE", x.ring(0, 10, 0), 1 + w / 2);
        }
    }

    /** "of a dirty one so many tenths of it (cut) stay": each d, and each w from 0 to 98; at the ROOF of the half. */
    private static void tenthsThatStay() {
        for (int tenths = 1; tenths <= 9; tenths++) {
            for (int w = 0; w <= 98; w++) {
                SaltRooms x = Due.rooms("d" + tenths + "30");
                x.law(0, 99);
                x.cavern(5, 10, 11);
                x.string(0, 11, 11, 11);
                int stay = w * tenths / 10;
                DUE.is("of " + w + " by " + tenths, x.step(0, w + 1), w - stay);
                DUE.is("what fell", x.of(0, 2), stay);
                DUE.is("SIZE", x.ring(0, 11, 0), 1 + w);
                x.cavern(500, 10, 10);
                int half = w / 2;
                DUE.is("of half of " + w, x.step(1, w + 1), half - half * tenths / 10);
                DUE.is("what fell", x.of(1, 2), half * tenths / 10);
            }
        }
    }

    /** "99999 at most: no more is lost": what stays is of what is lost. More calls than an object is used for. */
    private static void sizeAtMost() {
        SaltRooms x = Due.rooms("s11d319");
        x.law(0, 99);
        x.cavern(5, 9, 11);
        x.string(0, 10, 10, 9);
        for (int i = 0; i < 1020; i++) {
            x.step(0, 99);
        }
        DUE.is("SIZE", x.ring(0, 10, 0), 99961);
        DUE.is("to just the most", x.step(0, 39), 38);
        DUE.is("SIZE", x.ring(0, 10, 0), 99999);
        DUE.is("REACH", x.ring(0, 10, 1), 316);
        DUE.is("no more", x.step(0, 99), 0);
        DUE.is("SIZE", x.ring(0, 10, 0), 99999);
        // One ahead of it.
        x.undo();
        x.undo();
        DUE.is("all but one", x.step(0, 38), 37);
        DUE.is("SIZE", x.ring(0, 10, 0), 99998);
        DUE.is("one", x.step(0, 2), 1);
        DUE.is("none", x.step(0, 2), 0);
    }

    /** "when it is SIZE of the lowest RING that is not FULL or more": by one less, by just that, by one more. */
    private static void fullAtJustItsSize() {
        for (int more = -1; more <= 1; more++) {
            SaltRooms x = Due.rooms("s10d919s1");
            x.law(0, 99);
            x.cavern(5, 9, 29);
            x.string(0, 29, 29, 9);
            // SIZE 18 of the lowest; of 18, 20 and 22 the 9 tenths are 16 (no 17), 18 and 19.
            x.step(0, 18);
            DUE.is("the lowest", x.ring(0, 29, 0), 18);
            x.string(0, 28, 28, 9);
            int w = more < 0 ? 19 : more == 0 ? 20 : 22;
            x.step(0, w + 1);
            DUE.is("what fell", x.of(0, 2), 18 + more);
            DUE.is("FULL", x.ring(0, 29, 2), more < 0 ? 0 : 1);
            DUE.is("THE FLOOR", x.of(0, 3), more < 0 ? 17 : more);
            DUE.is("its SIZE stays", x.ring(0, 29, 0), 18);
            DUE.is("the next one", x.ring(0, 28, 2), 0);
        }
    }

    /** "and so on with the next one above": by one STEP none, one, two .. of RINGS of SIZE 1. */
    private static void fullOneByOne() {
        for (int fell = 0; fell <= 8; fell++) {
            SaltRooms x = Due.rooms("s11d11s18");
            x.law(0, 99);
            x.cavern(5, 10, 17);
            // LEVEL 11 is dirty by one tenth, 12 .. 17 are of SIZE 1.
            x.string(0, 11, 11, 10);
            x.step(0, 10 * fell + 1);
            DUE.is("what fell", x.of(0, 2), fell);
            for (int level = 12; level <= 17; level++) {
                DUE.is(fell + " fill LEVEL " + level, x.ring(0, level, 2), level > 17 - fell ? 1 : 0);
            }
            DUE.is("the dirty one has SIZE", x.ring(0, 11, 0), 10 * fell + 1);
            DUE.is("THE FLOOR", x.of(0, 3), Math.max(0, fell - 6));
            DUE.is("ROOM", x.of(0, 4), 8 + 9 * fell);
        }
    }

    /** "the ROOF is never FULL": THE FLOOR may be its SIZE, and more. */
    private static void roofIsNeverFull() {
        SaltRooms x = Due.rooms("d930");
        x.law(0, 99);
        x.set(1, 99);
        x.set(0, 99);
        x.cavern(5, 20, 20);
        x.step(0, 41);
        DUE.is("SIZE 21 and 18", x.ring(0, 20, 0) * 100 + x.of(0, 3), 2118);
        // 21 times 99 times 30 by 10000 is 6; then 4, 3 ..
        x.years(1);
        DUE.is("15 is less than 18", x.ring(0, 20, 0) * 100 + x.of(0, 3), 1518);
        DUE.is("never FULL", x.ring(0, 20, 2), 0);
        DUE.is("ROOM", x.of(0, 4), -3);
        x.years(20);
        DUE.is("SIZE 3 and 18", x.ring(0, 20, 0) * 100 + x.of(0, 3), 318);
        DUE.is("never FULL", x.ring(0, 20, 2), 0);
        DUE.is("a STRING still", hung(x, 0), 202020);
        DUE.is("it may be washed", x.step(0, 99), 49 - 44);
        // By just its SIZE: a shielded ROOF of SIZE 1, one dirty RING below it.
        SaltRooms y = Due.rooms("d930");
        y.law(0, 99);
        y.set(1, 99);
        y.set(0, 99);
        y.cavern(5, 20, 21);
        y.string(0, 21, 21, 21);
        y.step(0, 11);
        DUE.is("SIZE 11 and 9", y.ring(0, 21, 0) * 100 + y.of(0, 3), 1109);
        y.years(1);
        // 11 times 99 times 31 by 10000 is 3: 8, which is FULL; 1 lies in the ROOF of 1.
        DUE.is("FULL", y.ring(0, 21, 2), 1);
        DUE.is("THE FLOOR", y.of(0, 3), 1);
        DUE.is("the ROOF is not", y.ring(0, 20, 2), 0);
        DUE.is("ROOM", y.of(0, 4), 0);
        DUE.is("no OIL goes in", y.fill(0, false, 1, true), -6);
        DUE.is("GAS does", y.fill(0, true, 20, true), 20);
        DUE.is("as if ROOM were 1", y.of(0, 5), 20);
    }

    /** "Then the STRING's LEVELS below the lowest RING that is not FULL become that one": that one and others stay. */
    private static void stringsAreLifted() {
        // WATER, BRINE, OIL; then the lowest that is not FULL, by 10 of which 9 stay at each LEVEL that is washed.
        int[][] rows = {{11, 11, 9, 11}, {11, 11, 11, 11}, {13, 11, 9, 11}, {11, 13, 9, 11}, {13, 13, 13, 13},
            {12, 12, 10, 12}, {10, 10, 10, 10}, {11, 11, 10, 11}, {11, 13, 12, 12}, {13, 12, 9, 12}, {9, 9, 13, 13}};
        for (int[] row : rows) {
            SaltRooms x = Due.rooms("s10d920");
            x.law(0, 99);
            x.cavern(5, 9, 13);
            x.string(0, row[0], row[1], row[2]);
            x.step(0, 11);
            String name = row[0] + ", " + row[1] + ", " + row[2];
            for (int level = 9; level <= 13; level++) {
                DUE.is(name + ": FULL " + level, x.ring(0, level, 2), level > row[3] ? 1 : 0);
            }
            int due = Math.min(row[0], row[3]) * 10000 + Math.min(row[1], row[3]) * 100 + Math.min(row[2], row[3]);
            DUE.is(name + ": STRING", hung(x, 0), due);
        }
    }

    /** "A STEP of a CAVERN that is planned or washed, its STRING not CUT": the STATE ahead of n, the CAVERN ahead of it. */
    private static void stepsOfEachState() {
        SaltRooms x = new Scenes(Scenes.STATES).make();
        int[] due = {1, -3, -3, -3, -3, -1};
        for (int c = 0; c < 6; c++) {
            int below = due[c] == 1 ? -4 : due[c];
            int above = due[c] == 1 ? -6 : due[c];
            DUE.is("step(" + c + ", 0)", x.step(c, 0), below);
            DUE.is("step(" + c + ", 100)", x.step(c, 100), above);
            DUE.is("half(" + c + ", 0)", x.half(c, 0), below);
            DUE.is("half(" + c + ", 100)", x.half(c, 100), above);
            DUE.is("plan(" + c + ", 0, 0)", x.plan(c, 0, 0), below);
            DUE.is("plan(" + c + ", 6, 0)", x.plan(c, 6, 0), above);
            if (due[c] < 0) {
                DUE.is("step(" + c + ", 5)", x.step(c, 5), due[c]);
                DUE.is("half(" + c + ", 4)", x.half(c, 4), due[c]);
                DUE.is("plan(" + c + ", 1, 0)", x.plan(c, 1, 0), due[c]);
            }
        }
        DUE.is("a planned one too", new Scenes(Scenes.FEW).make().step(0, 1), 0);
    }

    /** "-7 a wall": behind -1, -3, -4 and -6; SIZE 3 leaves the wall, SIZE 4 does not. */
    private static void stepBehindAWall() {
        SaltRooms x = Build.strong();
        x.cavern(100, 4, 6);
        x.cavern(112, 6, 9);
        x.string(0, 6, 6, 4);
        DUE.is("SIZE 4", x.step(0, 4), -7);
        DUE.is("SIZE 1 still, planned still", x.ring(0, 6, 0) * 10 + x.of(0, 0), 10);
        DUE.is("no ACT", x.count(4), 1);
        DUE.is("n below", x.step(0, 0), -4);
        DUE.is("n above", x.step(0, 100), -6);
        DUE.is("SIZE 3", x.step(0, 3), 2);
        DUE.is("SIZE 4", x.step(0, 2), -7);
        DUE.is("count(17)", x.count(17), 2);
        x.set(2, 9);
        DUE.is("by a less wall", x.step(0, 2), 1);
        DUE.is("wall", x.wall(0, 1, 6), 9);
        x.set(2, 10);
        DUE.is("a wall that was below it ahead", x.step(0, 1), -7);
        x.string(0, 5, 5, 4);
        DUE.is("at another LEVEL", x.step(0, 1), -7);
        x.close(0);
        DUE.is("a shut one's", x.step(0, 50), -3);
    }

    /** Some STEPS in any BEDS, STRINGS anywhere, against a plain telling of the document. */
    private static void stepByStep() {
        String[] texts = {"s30", "d930", "(s1d91d51h1s1)6", "(s2d41)10", "(d12d92s2)5", "s2(d814)2", "(h1d93)7s2"};
        int full = 0;
        for (int run = 0; run < 300; run++) {
            Dice d = new Dice(run + 40);
            String text = texts[run % texts.length];
            SaltRooms x = Due.rooms(text);
            int roof = d.from(0, 25);
            Told told = new Told(roof, d.from(roof, Math.min(29, roof + 9)));
            for (int level = 0; level < 30; level++) {
                told.kinds[level] = x.bed(level);
            }
            for (int k = 0; k < 10; k++) {
                told.laws[k] = d.from(40, 99);
                x.law(k, told.laws[k]);
            }
            x.cavern(5, roof, told.bottom);
            for (int i = 0; i < 25; i++) {
                int low = told.lowest;
                if (d.one(2)) {
                    told.hang(d.from(roof, low), d.from(roof, low), d.one(3) ? d.from(roof, low) : roof);
                    DUE.is("string", x.string(0, told.hung[0], told.hung[1], told.hung[2]), 1);
                }
                int n = d.from(1, 99);
                DUE.is("run " + run + ", step " + i, x.step(0, n), told.step(n));
                told.is("run " + run + ", step " + i, x);
            }
            full += told.bottom - told.lowest;
        }
        DUE.is("some RINGS became FULL", full > 100 ? 1 : 0, 1);
    }

    /** A CAVERN and its STEPS, as the document tells them. */
    private static final class Told {
        private final int roof;
        private final int bottom;
        private final int[] kinds = new int[30];
        private final int[] laws = new int[10];
        private final int[] size = new int[30];
        private int[] hung;
        private int lowest;
        private int floor;
        private int fell;

        Told(int roof, int bottom) {
            this.roof = roof;
            this.bottom = bottom;
            lowest = bottom;
            hung = new int[] {bottom, roof, roof};
            java.util.Arrays.fill(size, 1);
        }

        void hang(int water, int brine, int oil) {
            hung = new int[] {water, brine, oil};
        }

        int step(int n) {
            int out = 0;
            int strength = 0;
            int level = hung[0];
            while (true) {
                if (level >= hung[2] && kinds[level] < 10) {
                    int w = n * laws[strength / 10] / 100;
                    if (level == roof) {
                        w = w / 2;
                    }
                    int stay = kinds[level] * w / 10;
                    size[level] += w;
                    floor += stay;
                    fell += stay;
                    out += w - stay;
                    strength = Math.min(99, 100 * out / (out + 4 * n));
                }
                if (level == hung[1]) {
                    break;
                }
                level += Integer.signum(hung[1] - level);
            }
            while (lowest > roof && floor >= size[lowest]) {
                floor -= size[lowest--];
            }
            for (int i = 0; i < 3; i++) {
                hung[i] = hung[i] > lowest ? lowest : hung[i];
            }
            return out;
        }

        void is(String when, SaltRooms x) {
            DUE.is(when + ": THE FLOOR", x.of(0, 3), floor);
            DUE.is(when + ": what fell", x.of(0, 2), fell);
            DUE.is(when + ": STRING", hung(x, 0), hung[0] * 10000 + hung[1] * 100 + hung[2]);
            for (int level = roof; level <= bottom; level++) {
                DUE.is(when + ": SIZE of " + level, x.ring(0, level, 0), size[level]);
                DUE.is(when + ": FULL " + level, x.ring(0, level, 2), level > lowest ? 1 : 0);
            }
        }
    }

    /** "HALF: .. from one STEP of n (even)": 2 and 98 are let through; odd is a STATE, whatever its size. */
    private static void halfOfEvenNumbers() {
        SaltRooms x = new SaltRooms();
        x.cavern(5, 10, 12);
        for (int n : new int[] {1, 3, 97, 99, 101, -1, -3, MAX, MIN + 1}) {
            DUE.is("half(0, " + n + ")", x.half(0, n), -3);
        }
        for (int n : new int[] {0, -2, MIN, -100}) {
            DUE.is("half(0, " + n + ")", x.half(0, n), -4);
        }
        for (int n : new int[] {100, 102, MAX - 1}) {
            DUE.is("half(0, " + n + ")", x.half(0, n), -6);
        }
        DUE.is("count(13)", x.count(13), 9);
        DUE.is("count(14)", x.count(14), 4);
        DUE.is("count(16)", x.count(16), 3);
        // 2 by 90 is 1, by 80 1, half of 1 is 0; 1 is nothing twice.
        DUE.is("half(0, 2)", x.half(0, 2), 2);
        // 88 and 78, half of 68; twice 44 and 39, half of 34.
        DUE.is("half(0, 98)", x.half(0, 98), 0);
        DUE.is("planned still, no ACT", x.of(0, 0) + x.count(4), 0);
        DUE.is("half(1, 2)", x.half(1, 2), -1);
        DUE.is("half(1, 1)", x.half(1, 1), -1);
        // LAW 1: by 100 of 98 nothing, so nothing twice; LAW 99: 1 of 2, twice 0 of 1; 97 of 98, twice 48 of 49.
        x.string(0, 12, 12, 12);
        x.law(0, 1);
        DUE.is("by LAW 1", x.half(0, 98), 0);
        x.law(0, 99);
        DUE.is("by LAW 99", x.half(0, 2), 1);
        DUE.is("by LAW 99", x.half(0, 98), 1);
        x.law(0, 0);
        DUE.is("by LAW 0", x.half(0, 98), 0);
    }

    /** What is told of a RING (0 .. 3) and of a CAVERN (0 .. 14), and no other. */
    private static void ringAndOf() {
        SaltRooms x = new SaltRooms();
        x.cavern(5, 10, 12);
        for (int what : new int[] {-1, 4, MIN, MAX}) {
            DUE.is("ring(0, 10, " + what + ")", x.ring(0, 10, what), -2);
            DUE.is("no RING: ring(0, 9, " + what + ")", x.ring(0, 9, what), -1);
            DUE.is("no CAVERN: ring(1, 10, " + what + ")", x.ring(1, 10, what), -1);
        }
        for (int what : new int[] {-1, 15, MIN, MAX}) {
            DUE.is("of(0, " + what + ")", x.of(0, what), -2);
            DUE.is("no CAVERN: of(1, " + what + ")", x.of(1, what), -1);
        }
        DUE.is("count(11)", x.count(11), 12);
        DUE.is("count(12)", x.count(12), 8);
        for (int what = 0; what <= 14; what++) {
            DUE.is("of(0, " + what + ") is told", x.of(0, what) >= 0 ? 1 : 0, 1);
            DUE.is("ring(0, 12, ..) is told", x.ring(0, 12, what % 4) >= 0 ? 1 : 0, 1);
        }
        DUE.is("nothing is counted", x.count(11) + x.count(12), 20);
    }
}

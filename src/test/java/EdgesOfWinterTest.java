/** The edges that the document names under V: TESTS and LEAK, HOW LONG, A WINTER, A PLAN. */
public final class EdgesOfWinterTest {
    private static final Due DUE = new Due("EdgesOfWinterTest");
    private static final int MIN = Integer.MIN_VALUE;
    private static final int MAX = Integer.MAX_VALUE;

    public static void main(String[] args) {
        testsTo6();
        testNumbers();
        testOfTwoFaults();
        leakWithoutTests();
        leakWithinDoubt();
        leakOfWhatTheyMade();
        leakFromLeastToGreatest();
        leakThatFitsNone();
        howLongAboveTwice();
        howLongFrom1To999();
        howLongNumbers();
        needsOfTwelveDays();
        givesOfEachCavern();
        givenOfNothing();
        givenToItsOil();
        givenToItsNeed();
        givenByTwelveDays();
        givenOfStates();
        proofOfSets();
        aimsFrom0To99999();
        choicesTo5();
        noChoicesOfNoneAndFive();
        planOfOneToFiveSteps();
        planOfNoAims();
        planOfNoWay();
        planOfTheFirst();
        planUnderOil();
        planLeavesAll();
        planOfTwoFaults();
        DUE.end();
    }

    private static SaltRooms one() {
        SaltRooms x = new SaltRooms();
        x.cavern(5, 3, 5);
        return x;
    }

    /** "TESTS of a CAVERN (6 at most)": each CAVERN has its own six. */
    private static void testsTo6() {
        SaltRooms x = new SaltRooms();
        DUE.is("no CAVERN", x.test(0, 1, 0, 0, 0, 0), -1);
        for (int c = 0; c < 5; c++) {
            x.cavern(200 * c, 3, 5);
        }
        for (int i = 1; i <= 6; i++) {
            for (int c = 0; c < 5; c++) {
                DUE.is("TEST " + i, x.test(c, 1, 20 + c, 7 - i, 0, 0), i);
                DUE.is("LEAST", x.leak(c, 0), 20 + c - 7 + i);
                DUE.is("GREATEST", x.leak(c, 1), 20 + c + 7 - i);
            }
        }
        for (int c = 0; c < 5; c++) {
            DUE.is("a seventh", x.test(c, 1, 500, 0, 0, 0), -6);
            DUE.is("a seventh, -4 ahead", x.test(c, 0, 500, 0, 0, 0), -4);
            DUE.is("it counts nothing", x.leak(c, 0), 19 + c);
        }
        DUE.is("count(16)", x.count(16), 5);
        DUE.is("count(14)", x.count(14), 5);
    }

    /** "DAYS (1 .. 99) the push fell by a number (0 .. 9999) with a DOUBT (0 .. 99) .. (told, -99 .. 99)". */
    private static void testNumbers() {
        int[][] least = {{1, 0, 0, -99, -99}, {99, 9999, 99, 99, 99}, {1, 0, 0, -99, 99}};
        for (int[] t : least) {
            DUE.is("let through", one().test(0, t[0], t[1], t[2], t[3], t[4]), 1);
        }
        int[] good = {5, 50, 5, 1, 1};
        int[][] below = {{0, -1, MIN}, {-1, MIN}, {-1, MIN}, {-100, MIN}, {0, -100, MIN}};
        int[][] above = {{100, MAX}, {10000, MAX}, {100, MAX}, {}, {100, MAX}};
        SaltRooms x = one();
        int[] counted = new int[2];
        for (int i = 0; i < 5; i++) {
            for (int v : below[i]) {
                int[] t = good.clone();
                t[i] = v;
                DUE.is("number " + i + " is " + v, x.test(0, t[0], t[1], t[2], t[3], t[4]), -4);
                counted[0]++;
            }
            for (int v : above[i]) {
                int[] t = good.clone();
                t[i] = v;
                DUE.is("number " + i + " is " + v, x.test(0, t[0], t[1], t[2], t[3], t[4]), -6);
                counted[1]++;
            }
        }
        DUE.is("a and b 100", x.test(0, 5, 50, 5, 100, 100), -6);
        DUE.is("a and b greatest", x.test(0, 5, 50, 5, MAX, MAX), -6);
        DUE.is("b just a", x.test(0, 5, 50, 5, 1, 1), 1);
        DUE.is("count(14)", x.count(14), counted[0]);
        DUE.is("count(16)", x.count(16), counted[1] + 2);
    }

    private static void testOfTwoFaults() {
        SaltRooms x = one();
        DUE.is("-1 ahead of -4", x.test(1, 0, -1, -1, 5, 4), -1);
        DUE.is("-1 ahead of -6", x.test(1, 100, 10000, 100, 100, 100), -1);
        DUE.is("-4 (b) ahead of -6 (DAYS)", x.test(0, 100, 0, 0, 0, -1), -4);
        DUE.is("-4 (DAYS) ahead of -6 (b)", x.test(0, 0, 0, 0, 0, 100), -4);
        DUE.is("-4 (b below a) ahead of -6 (a)", x.test(0, 1, 0, 0, 100, 99), -4);
        DUE.is("-4 (DOUBT) ahead of -6 (a number)", x.test(0, 1, 10000, -1, 0, 0), -4);
        DUE.is("none was one", x.test(0, 1, 0, 0, 0, 0), 1);
    }

    /** "without TESTS -9999, 9999". */
    private static void leakWithoutTests() {
        SaltRooms x = one();
        DUE.is("LEAST", x.leak(0, 0), -9999);
        DUE.is("GREATEST", x.leak(0, 1), 9999);
        x.test(0, 100, 1, 1, 0, 0);
        DUE.is("a refused one is none", x.leak(0, 0), -9999);
        for (int what : new int[] {-1, 2, MIN, MAX}) {
            DUE.is("leak(0, " + what + ")", x.leak(0, what), -2);
            DUE.is("leak(1, " + what + ")", x.leak(1, what), -1);
        }
        for (int c : new int[] {1, -1, MIN, MAX}) {
            DUE.is("leak(" + c + ", 0)", x.leak(c, 0), -1);
        }
        DUE.is("count(11)", x.count(11), 8);
        DUE.is("count(12)", x.count(12), 4);
    }

    /** "is within DOUBT of what it fell": just by it, not by one more. */
    private static void leakWithinDoubt() {
        for (int doubt = 0; doubt <= 99; doubt++) {
            SaltRooms x = one();
            x.test(0, 10, 500, doubt, 0, 0);
            DUE.is("LEAST by " + doubt, x.leak(0, 0), 50 - doubt / 10);
            DUE.is("GREATEST by " + doubt, x.leak(0, 1), 50 + doubt / 10);
            SaltRooms y = one();
            y.test(0, 99, 49, doubt, 0, 0);
            DUE.is("49 in 99 DAYS", y.leak(0, 0), doubt >= 49 ? 0 : 10000);
            DUE.is("49 in 99 DAYS", y.leak(0, 1), doubt < 49 ? 10000 : doubt >= 50 ? 1 : 0);
        }
    }

    /** "for some that they may have made": a to b, whole numbers. */
    private static void leakOfWhatTheyMade() {
        int[][] made = {{-99, -99}, {-99, 99}, {99, 99}, {0, 0}, {-1, 1}, {5, 5}, {-7, -3}};
        for (int[] m : made) {
            SaltRooms x = one();
            x.test(0, 4, 200, 3, m[0], m[1]);
            DUE.is("LEAST", x.leak(0, 0), 50 - m[1]);
            DUE.is("GREATEST", x.leak(0, 1), 50 - m[0]);
        }
    }

    /** "LEAST and GREATEST of those from -9999 to 9999". */
    private static void leakFromLeastToGreatest() {
        SaltRooms x = one();
        x.test(0, 1, 9999, 0, 0, 0);
        DUE.is("just 9999", x.leak(0, 0), 9999);
        DUE.is("just 9999", x.leak(0, 1), 9999);
        SaltRooms y = one();
        y.test(0, 1, 9999, 99, -99, 99);
        DUE.is("LEAST", y.leak(0, 0), 9999 - 99 - 99);
        DUE.is("9999 of 10197", y.leak(0, 1), 9999);
        SaltRooms z = one();
        z.test(0, 1, 9999, 0, -1, -1);
        DUE.is("10000 is none of them", z.leak(0, 0), 10000);
        DUE.is("10000 is none of them", z.leak(0, 1), 10000);
        SaltRooms v = one();
        v.test(0, 1, 9998, 1, -1, -1);
        DUE.is("9998 .. 10000", v.leak(0, 0), 9998);
        DUE.is("9998 .. 10000", v.leak(0, 1), 9999);
        SaltRooms w = one();
        w.test(0, 1, 0, 99, 99, 99);
        DUE.is("the least that may be", w.leak(0, 0), -198);
        DUE.is("0", w.leak(0, 1), 0);
        DUE.is("nothing is counted", w.count(11) + w.count(12), 0);
    }

    /** "none fits: 10000 both": of one TEST, of two, and one LEAK that fits both. */
    private static void leakThatFitsNone() {
        for (int apart = 0; apart <= 4; apart++) {
            SaltRooms x = one();
            x.test(0, 1, 50, 1, 0, 0);
            x.test(0, 1, 50 + apart, 1, 0, 0);
            DUE.is("LEAST, " + apart, x.leak(0, 0), apart > 2 ? 10000 : 49 + apart);
            DUE.is("GREATEST, " + apart, x.leak(0, 1), apart > 2 ? 10000 : 51);
            x.test(0, 1, 50, 99, -99, 99);
            DUE.is("then, " + apart, x.leak(0, 0), apart > 2 ? 10000 : 49 + apart);
        }
    }

    /** "DAYS times their difference is above twice a DOUBT": not if it is just that. */
    private static void howLongAboveTwice() {
        SaltRooms x = new SaltRooms();
        for (int apart = 1; apart <= 999; apart += 37) {
            for (int days = 1; days <= 25; days++) {
                int twice = days * apart;
                if (twice % 2 == 0 && twice / 2 <= 9999) {
                    DUE.is("just twice", x.howLong(999, 999 - apart, twice / 2), days + 1);
                    DUE.is("one less", x.howLong(999 - apart, 999, twice / 2 - 1), apart == 1 ? days - 1 : days);
                }
            }
        }
    }

    /** "the least DAYS (1 .. 999) ..; -9 none". */
    private static void howLongFrom1To999() {
        SaltRooms x = new SaltRooms();
        DUE.is("no DOUBT", x.howLong(1, 0, 0), 1);
        DUE.is("1 of 998", x.howLong(1, 0, 499), 999);
        DUE.is("1 of 1000", x.howLong(1, 0, 500), -9);
        DUE.is("2 of 1996", x.howLong(0, 2, 998), 999);
        DUE.is("2 of 1998", x.howLong(0, 2, 999), -9);
        DUE.is("20 of 19978", x.howLong(20, 0, 9989), 999);
        DUE.is("20 of 19980", x.howLong(20, 0, 9990), -9);
        DUE.is("21 of 19998", x.howLong(21, 0, 9999), 953);
        DUE.is("999 of 19998", x.howLong(0, 999, 9999), 21);
        DUE.is("999 of 1998", x.howLong(0, 999, 999), 3);
        DUE.is("999 of 998", x.howLong(0, 999, 499), 1);
        for (int v : new int[] {0, 1, 500, 999}) {
            DUE.is("no difference", x.howLong(v, v, 0), -9);
        }
        DUE.is("-9 is not counted", x.count(14) + x.count(16), 0);
    }

    /** "(0 .. 999 each)", "a DOUBT (0 .. 9999)"; -4 ahead of -6. */
    private static void howLongNumbers() {
        SaltRooms x = new SaltRooms();
        int[] most = {999, 999, 9999};
        int below = 0;
        int above = 0;
        for (int i = 0; i < 3; i++) {
            for (int v : new int[] {-1, MIN}) {
                int[] a = {5, 5, 5};
                a[i] = v;
                DUE.is("number " + i + " is " + v, x.howLong(a[0], a[1], a[2]), -4);
                a[(i + 1) % 3] = MAX;
                DUE.is("and another one above", x.howLong(a[0], a[1], a[2]), -4);
                below += 2;
            }
            for (int v : new int[] {most[i] + 1, MAX}) {
                int[] a = {5, 5, 5};
                a[i] = v;
                DUE.is("number " + i + " is " + v, x.howLong(a[0], a[1], a[2]), -6);
                above++;
            }
        }
        DUE.is("the least", x.howLong(0, 0, 0), -9);
        DUE.is("the greatest", x.howLong(999, 999, 9999), -9);
        DUE.is("count(14)", x.count(14), below);
        DUE.is("count(16)", x.count(16), above);
    }

    /** "DAYS 0 .. 11 each NEED (0 .. 999; told, 0 at first)". */
    private static void needsOfTwelveDays() {
        SaltRooms x = new SaltRooms();
        for (int day = 0; day < 12; day++) {
            DUE.is("-1", x.need(day, -1), -4);
            DUE.is("1000", x.need(day, 1000), -6);
            DUE.is("999", x.need(day, 999), 0);
            DUE.is("its own", x.need(day, 10 + day), 999);
        }
        for (int day = 0; day < 12; day++) {
            DUE.is("0", x.need(day, 0), 10 + day);
        }
        for (int day : new int[] {-1, 12, MIN, MAX}) {
            for (int v : new int[] {0, -1, 1000, MIN, MAX}) {
                DUE.is("need(" + day + ", " + v + ")", x.need(day, v), -1);
            }
            DUE.is("proof(" + day + ")", x.proof(day), -1);
            DUE.is("given(" + day + ")", x.given(day), day == -1 ? 0 : -1);
        }
        DUE.is("need(0, least)", x.need(0, MIN), -4);
        DUE.is("need(0, greatest)", x.need(0, MAX), -6);
        DUE.is("given(-2)", x.given(-2), -1);
        DUE.is("count(11)", x.count(11), 20 + 4 + 3 + 1);
        DUE.is("count(14)", x.count(14), 13);
        DUE.is("count(16)", x.count(16), 13);
    }

    /** "each so much a DAY at most (.. (0 .. 999, told; 0 at first)". */
    private static void givesOfEachCavern() {
        SaltRooms x = new SaltRooms();
        DUE.is("no CAVERN", x.gives(0, 5), -1);
        for (int c = 0; c < 5; c++) {
            x.cavern(200 * c, 3, 5);
            DUE.is("-1", x.gives(c, -1), -4);
            DUE.is("least", x.gives(c, MIN), -4);
            DUE.is("1000", x.gives(c, 1000), -6);
            DUE.is("greatest", x.gives(c, MAX), -6);
            DUE.is("999", x.gives(c, 999), 0);
            DUE.is("its own", x.gives(c, c), 999);
        }
        for (int c = 0; c < 5; c++) {
            DUE.is("0", x.gives(c, 0), c);
        }
        for (int c : new int[] {5, -1, MIN, MAX}) {
            DUE.is("gives(" + c + ", -1)", x.gives(c, -1), -1);
            DUE.is("gives(" + c + ", 1000)", x.gives(c, 1000), -1);
        }
    }

    private static void nothing(String name, SaltRooms x) {
        for (int day = -1; day < 12; day++) {
            DUE.is(name + ": given(" + day + ")", x.given(day), 0);
        }
    }

    /** No CAVERN, no OIL, none a DAY, no NEED: each alone gives nothing. */
    private static void givenOfNothing() {
        SaltRooms x = new SaltRooms();
        nothing("a new object", x);
        for (int day = 0; day < 12; day++) {
            x.need(day, 999);
            DUE.is("no CAVERN: proof(" + day + ")", x.proof(day), 0);
        }
        nothing("no CAVERN", x);
        x.cavern(5, 3, 5);
        x.gives(0, 999);
        nothing("no OIL", x);
        x.fill(0, true, 1, true);
        nothing("GAS is no OIL", x);
        x.gives(0, 0);
        x.fill(0, false, 2, true);
        nothing("none a DAY", x);
        x.gives(0, 999);
        DUE.is("all of it", x.given(-1), 2);
        x.giveUp(0);
        nothing("given up", x);
    }

    /** Of one CAVERN with 10 OIL that gives 4 a DAY: 4, 4, 2; the last DAY of all may be the only one. */
    private static SaltRooms ten() {
        SaltRooms x = Build.strong();
        Build.cavern(x, 5, 3, 20, 20);
        x.fill(0, false, 10, true);
        x.gives(0, 4);
        return x;
    }

    /** "no more than its OIL in all". */
    private static void givenToItsOil() {
        SaltRooms x = ten();
        for (int day = 0; day < 12; day++) {
            x.need(day, 999);
        }
        int[] due = {4, 4, 2, 0, 0, 0, 0, 0, 0, 0, 0, 0};
        for (int day = 0; day < 12; day++) {
            DUE.is("given(" + day + ")", x.given(day), due[day]);
        }
        DUE.is("in all", x.given(-1), 10);
        DUE.is("nothing is drawn", x.of(0, 6), 10);
        x.gives(0, 10);
        DUE.is("all on DAY 0", x.given(0) * 100 + x.given(1), 1000);
        x.gives(0, 999);
        DUE.is("no more than there is", x.given(0) * 100 + x.given(1), 1000);
        x.fill(0, false, 1, false);
        DUE.is("9 left", x.given(0), 9);
    }

    private static void givenToItsNeed() {
        for (int only = 0; only < 12; only++) {
            SaltRooms x = ten();
            for (int need = 0; need <= 5; need++) {
                x.need(only, need);
                DUE.is("NEED " + need + " on " + only, x.given(only), Math.min(need, 4));
                DUE.is("in all", x.given(-1), Math.min(need, 4));
                DUE.is("PROOF", x.proof(11), 1);
            }
            for (int day = 0; day < 12; day++) {
                DUE.is("given(" + day + ")", x.given(day), day == only ? 4 : 0);
            }
        }
    }

    /** Five CAVERNS, 12 DAYS of 999: each DAY what all five give, as long as they have it. */
    private static void givenByTwelveDays() {
        SaltRooms x = Build.strong();
        int[] oil = {120, 11, 24, 35, 150};
        int[] aDay = {10, 1, 2, 3, 12};
        for (int c = 0; c < 5; c++) {
            Build.cavern(x, 200 * c, 3, 98, 98);
            x.fill(c, false, oil[c], true);
            x.gives(c, aDay[c]);
        }
        for (int day = 0; day < 12; day++) {
            x.need(day, 999);
        }
        for (int day = 0; day < 11; day++) {
            DUE.is("given(" + day + ")", x.given(day), 28);
            DUE.is("all five prove it: proof(" + day + ")", x.proof(day), day < 10 ? 31 : 29);
        }
        // 1 has none left, 3 has 2; of those 0 has just its last 10.
        DUE.is("given(11)", x.given(11), 10 + 0 + 2 + 2 + 12);
        DUE.is("in all", x.given(-1), 11 * 28 + 26);
        // 0 and 2 prove as much in the set and out of it: 120 and 24.
        DUE.is("proof(11)", x.proof(11), 16);
        x.need(11, 0);
        DUE.is("no more on the last", x.given(11), 0);
        DUE.is("in all", x.given(-1), 11 * 28);
    }

    /** "CAVERNS that are not given up give OIL": planned ones have none; kept and shut ones do. */
    private static void givenOfStates() {
        for (int way = 0; way < 3; way++) {
            SaltRooms x = ten();
            x.need(0, 999);
            if (way == 1) {
                x.close(0);
            } else if (way == 2) {
                x.giveUp(0);
            }
            DUE.is("STATE", x.of(0, 0), 2 + way);
            DUE.is("given(0)", x.given(0), way == 2 ? 0 : 4);
            DUE.is("proof(0)", x.proof(0), way == 2 ? 0 : 1);
            DUE.is("OIL is there", x.has(0, -1, false), 10);
        }
    }

    /** "the sets .. come together to the least, the least set, as bits": {} and all five; of several the least. */
    private static void proofOfSets() {
        SaltRooms x = new SaltRooms();
        for (int c = 0; c < 5; c++) {
            x.cavern(200 * c, 3, 5);
        }
        DUE.is("all prove nothing, {} too", x.proof(11), 0);
        for (int c = 0; c < 5; c++) {
            x.fill(c, false, 2, true);
        }
        DUE.is("no NEED: {} has 10, all five have 0", x.proof(11), 31);
        x.need(0, 9);
        DUE.is("none gives: all five", x.proof(0), 31);
        for (int c = 0; c < 5; c++) {
            x.gives(c, 2);
        }
        // Each set of k has 10 less 2 k, and 2 k, 9 at most: {} has 10, all five 9.
        DUE.is("NEED 9", x.proof(0), 31);
        x.need(0, 10);
        DUE.is("NEED 10: {} too", x.proof(0), 0);
        x.gives(4, 1);
        DUE.is("all have 9, {4} has 8 and 1", x.proof(0), 16);
        x.giveUp(4);
        DUE.is("without the fifth", x.proof(0), 0);
        x.need(0, 7);
        DUE.is("of four: all of them", x.proof(0), 15);
        // DAY 0 alone, then with DAY 1.
        x.need(1, 1);
        DUE.is("up to DAY 0", x.proof(0), 15);
        DUE.is("up to DAY 1: 8 by {}", x.proof(1), 0);
    }

    /** "AIMS for LEVELS (SIZE 0 .. 99999 each, told, 0 at first: none)". */
    private static void aimsFrom0To99999() {
        SaltRooms x = new SaltRooms();
        for (int level = 0; level < 30; level++) {
            DUE.is("-1", x.aim(level, -1), -4);
            DUE.is("100000", x.aim(level, 100000), -6);
            DUE.is("99999", x.aim(level, 99999), 0);
            DUE.is("its own", x.aim(level, level), 99999);
        }
        for (int level = 0; level < 30; level++) {
            DUE.is("0", x.aim(level, 0), level);
        }
        for (int level : new int[] {-1, 30, MIN, MAX}) {
            for (int v : new int[] {0, -1, 100000, MIN, MAX}) {
                DUE.is("aim(" + level + ", " + v + ")", x.aim(level, v), -1);
            }
        }
        DUE.is("aim(0, least)", x.aim(0, MIN), -4);
        DUE.is("aim(0, greatest)", x.aim(0, MAX), -6);
        // As far as can be: SIZE 1 from 99999; an AIM of 1 is one.
        SaltRooms y = Due.rooms("h30");
        y.cavern(5, 3, 4);
        y.choice(4, 4, 1);
        y.aim(3, 99999);
        y.aim(4, 99999);
        DUE.is("two of them", y.plan(0, 1, 0), 2 * 99998);
        y.aim(3, 1);
        DUE.is("an AIM of 1", y.plan(0, 1, 0), 99998);
        y.aim(4, 0);
        DUE.is("0 is none", y.plan(0, 1, 0), 0);
        y.aim(2, 500);
        y.aim(5, 500);
        DUE.is("of other LEVELS", y.plan(0, 1, 0), 0);
    }

    /** "CHOICES (5 at most, told): WATER, BRINE, n": any LEVELS, n 1 .. 99. */
    private static void choicesTo5() {
        SaltRooms x = new SaltRooms();
        for (int level : new int[] {-1, 30, MIN, MAX}) {
            for (int n : new int[] {5, 0, 100}) {
                DUE.is("WATER " + level, x.choice(level, 0, n), -1);
                DUE.is("BRINE " + level, x.choice(0, level, n), -1);
            }
        }
        for (int n : new int[] {0, -1, MIN}) {
            DUE.is("n " + n, x.choice(0, 0, n), -4);
        }
        for (int n : new int[] {100, MAX}) {
            DUE.is("n " + n, x.choice(0, 0, n), -6);
        }
        DUE.is("none", x.count(3), 0);
        DUE.is("first", x.choice(0, 0, 1), 1);
        DUE.is("second", x.choice(29, 29, 99), 2);
        DUE.is("third", x.choice(0, 29, 1), 3);
        DUE.is("fourth", x.choice(29, 0, 99), 4);
        DUE.is("fifth", x.choice(29, 0, 99), 5);
        DUE.is("sixth", x.choice(29, 0, 99), -6);
        DUE.is("sixth, -4 ahead", x.choice(29, 0, 0), -4);
        DUE.is("sixth, -1 ahead", x.choice(30, 0, 0), -1);
        DUE.is("count(3)", x.count(3), 5);
        DUE.is("count(11)", x.count(11), 25);
        DUE.is("count(14)", x.count(14), 4);
        DUE.is("count(16)", x.count(16), 3);
    }

    private static void noChoicesOfNoneAndFive() {
        SaltRooms x = one();
        DUE.is("none", x.noChoices(), 0);
        for (int times = 0; times < 3; times++) {
            for (int i = 1; i <= 5; i++) {
                DUE.is("choice " + i, x.choice(5, 5, 10 * times + i), i);
            }
            DUE.is("a sixth", x.choice(5, 5, 5), -6);
            DUE.is("five", x.noChoices(), 5);
            DUE.is("none", x.noChoices(), 0);
            DUE.is("count(3)", x.count(3), 0);
            DUE.is("no way", x.plan(0, 1, 0), -9);
        }
        x.choice(5, 5, 50);
        x.aim(5, 46);
        DUE.is("those of before count nothing", x.plan(0, 1, 0), 0);
        DUE.is("its number", x.plan(0, 1, 1), 0);
    }

    /** "m STEPS (1 .. 5)", "the sum (what 0 ..), the i-th CHOICE (i + 1; -9)": by 1 .. 5 of five CHOICES. */
    private static void planOfOneToFiveSteps() {
        SaltRooms x = Build.strong();
        x.cavern(5, 3, 5);
        int[] w = {1, 3, 9, 27, 81};
        for (int amount : w) {
            x.choice(5, 5, amount + 1);
        }
        for (int m = 1; m <= 5; m++) {
            // Each of the first m once, in their order.
            int sum = 0;
            for (int i = 0; i < m; i++) {
                sum += w[i];
            }
            x.aim(5, 1 + sum);
            DUE.is("sum of " + m, x.plan(0, m, 0), 0);
            for (int i = 0; i < 5; i++) {
                DUE.is("CHOICE " + i + " of " + m, x.plan(0, m, i + 1), i < m ? i : -9);
            }
            x.aim(5, 99999);
            DUE.is("the farthest of " + m, x.plan(0, m, 0), 99998 - 81 * m);
            for (int i = 0; i < 5; i++) {
                DUE.is("CHOICE " + i + " of " + m, x.plan(0, m, i + 1), i < m ? 4 : -9);
            }
        }
        for (int m : new int[] {0, -1, MIN}) {
            DUE.is("m " + m, x.plan(0, m, 0), -4);
        }
        for (int m : new int[] {6, MAX}) {
            DUE.is("m " + m, x.plan(0, m, 0), -6);
        }
        for (int what : new int[] {-1, 6, MIN, MAX}) {
            DUE.is("what " + what, x.plan(0, 1, what), -2);
        }
        DUE.is("count(12)", x.count(12), 4);
        DUE.is("count(14)", x.count(14), 3);
        DUE.is("count(16)", x.count(16), 2);
    }

    private static void planOfNoAims() {
        SaltRooms x = one();
        DUE.is("no CHOICES", x.plan(0, 1, 0), -9);
        x.choice(5, 5, 50);
        x.choice(4, 4, 50);
        for (int m = 1; m <= 5; m++) {
            DUE.is("no AIMS", x.plan(0, m, 0), 0);
            DUE.is("the first", x.plan(0, m, m), 0);
        }
    }

    /** "A way in which LEVELS or a STEP would be refused is none": all of them; -9 is not counted. */
    private static void planOfNoWay() {
        SaltRooms x = one();
        x.aim(5, 50);
        int[][] none = {{2, 5}, {5, 2}, {6, 5}, {5, 6}, {29, 29}};
        for (int[] at : none) {
            x.choice(at[0], at[1], 50);
            for (int what = 0; what <= 5; what++) {
                DUE.is("what " + what, x.plan(0, 3, what), -9);
            }
        }
        x.noChoices();
        x.cavern(18, 5, 5);
        // SIZE 4 leaves a wall of 13 less 1 and 2.
        x.choice(5, 5, 4);
        DUE.is("a wall of 10", x.plan(0, 1, 0), 46);
        DUE.is("SIZE 4, 7: 10", x.plan(0, 2, 0), 43);
        DUE.is("SIZE 10: 9", x.plan(0, 3, 0), -9);
        x.choice(3, 3, 1);
        DUE.is("by another one that adds nothing", x.plan(0, 3, 0), 43);
        DUE.is("the first of them", x.plan(0, 3, 1) * 100 + x.plan(0, 3, 2) * 10 + x.plan(0, 3, 3), 1);
        x.set(2, 12);
        DUE.is("walls that are below it ahead", x.plan(0, 1, 0), -9);
        DUE.is("-9 is not counted", x.count(11) + x.count(13) + x.count(17), 0);
    }

    /** "of several the first by CHOICES in order": the same CHOICE told five times. */
    private static void planOfTheFirst() {
        SaltRooms x = one();
        x.aim(5, 50);
        for (int i = 0; i < 5; i++) {
            x.choice(5, 5, 50);
        }
        for (int m = 1; m <= 5; m++) {
            for (int i = 1; i <= m; i++) {
                DUE.is("the first of the same", x.plan(0, m, i), 0);
            }
        }
    }

    /** "(its LEVELS are told, then the STEP is done, with OIL as it is then)". */
    private static void planUnderOil() {
        for (int oil = 3; oil <= 5; oil++) {
            SaltRooms x = Build.strong();
            x.cavern(5, 3, 5);
            x.string(0, 5, 3, oil);
            x.choice(4, 4, 11);
            x.aim(4, 100);
            DUE.is("OIL at " + oil, x.plan(0, 1, 0), oil > 4 ? 99 : 89);
        }
        // Five STEPS at 6 do not lift the OIL from it: THE FLOOR grows less than SIZE.
        SaltRooms y = Due.rooms("d930");
        y.law(0, 99);
        y.cavern(5, 3, 6);
        y.string(0, 6, 6, 6);
        y.choice(6, 6, 11);
        y.choice(5, 5, 11);
        y.aim(5, 100);
        DUE.is("5 is shielded", y.plan(0, 5, 0), 99);
        y.string(0, 6, 6, 5);
        DUE.is("5 is not", y.plan(0, 1, 0), 89);
    }

    private static void planLeavesAll() {
        SaltRooms x = new Scenes(Scenes.STATES).make();
        x.aim(10, 500);
        x.aim(11, 700);
        x.noChoices();
        x.choice(11, 10, 99);
        x.choice(10, 11, 60);
        String before = Whole.of(x);
        for (int m = 1; m <= 5; m++) {
            for (int what = 0; what <= 5; what++) {
                x.plan(0, m, what);
                x.half(0, 2 * m);
            }
        }
        DUE.is("nothing changed", before.equals(Whole.of(x)) ? 1 : 0, 1);
    }

    /** "-1; -2; -3 ..; -4; -6 m": two at once, in each STATE. */
    private static void planOfTwoFaults() {
        SaltRooms x = new Scenes(Scenes.STATES).make();
        DUE.is("-1 ahead of -2", x.plan(5, 1, 6), -1);
        DUE.is("-1 ahead of -4", x.plan(-1, 0, 0), -1);
        DUE.is("-2 ahead of -4", x.plan(0, 0, 6), -2);
        DUE.is("-2 ahead of -6", x.plan(0, 6, -1), -2);
        for (int c = 1; c < 5; c++) {
            DUE.is("-2 ahead of -3", x.plan(c, 1, 6), -2);
            DUE.is("-3 ahead of -4", x.plan(c, 0, 0), -3);
            DUE.is("-3 ahead of -6", x.plan(c, 6, 5), -3);
            DUE.is("-3", x.plan(c, 5, 5), -3);
        }
        DUE.is("count(11)", x.count(11), 2);
        DUE.is("count(12)", x.count(12), 6);
        DUE.is("count(13)", x.count(13), 12);
    }
}

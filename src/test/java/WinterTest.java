/** Promises 32 to 42: TESTS and LEAK, HOW LONG, A WINTER, A PLAN. */
public final class WinterTest {
    private static final Due DUE = new Due("WinterTest");

    public static void main(String[] args) {
        test();
        leak();
        leakCut();
        leakAtItsBounds();
        leakRefused();
        howLong();
        howLongRefused();
        need();
        gives();
        given();
        givenOfStates();
        givenInOrder();
        proof();
        aim();
        choice();
        noChoices();
        plan();
        planOfSeveral();
        planAndWalls();
        planOverFullRings();
        planRefused();
        DUE.end();
    }

    private static SaltRooms one() {
        SaltRooms x = new SaltRooms();
        x.cavern(5, 3, 5);
        return x;
    }

    private static void test() {
        SaltRooms x = one();
        DUE.is("no cavern", x.test(1, 0, 0, 0, 0, 0), -1);
        DUE.is("no cavern", x.test(-1, 0, 0, 0, 0, 0), -1);
        DUE.is("0 days", x.test(0, 0, 99999, 0, 0, 0), -4);
        DUE.is("fell -1", x.test(0, 1, -1, 0, 0, 0), -4);
        DUE.is("doubt -1", x.test(0, 1, 0, -1, 0, 0), -4);
        DUE.is("a -100", x.test(0, 1, 0, 0, -100, 0), -4);
        DUE.is("b -100", x.test(0, 1, 0, 0, -99, -100), -4);
        DUE.is("b below a", x.test(0, 1, 0, 0, 1, 0), -4);
        DUE.is("b below an a above", x.test(0, 1, 0, 0, 100, 99), -4);
        DUE.is("100 days", x.test(0, 100, 0, 0, 0, 0), -6);
        DUE.is("fell 10000", x.test(0, 1, 10000, 0, 0, 0), -6);
        DUE.is("doubt 100", x.test(0, 1, 0, 100, 0, 0), -6);
        DUE.is("a 100", x.test(0, 1, 0, 0, 100, 100), -6);
        DUE.is("b 100", x.test(0, 1, 0, 0, 99, 100), -6);
        x.cavern(50, 3, 5);
        DUE.is("another's first", x.test(1, 99, 9999, 99, -99, 99), 1);
        x.cavern(500, 3, 5);
        DUE.is("the least numbers", x.test(2, 1, 0, 0, -99, -99), 1);
        DUE.is("a LEAK of", x.leak(2, 0), 99);
        x.cavern(600, 3, 5);
        DUE.is("the greatest numbers", x.test(3, 99, 9999, 99, 99, 99), 1);
        DUE.is("a LEAK of", x.leak(3, 1), 3);
        for (int i = 1; i <= 6; i++) {
            DUE.is("test " + i, x.test(0, 1, 0, 99, -99, 99), i);
        }
        DUE.is("test 7", x.test(0, 1, 0, 99, -99, 99), -6);
        DUE.is("test 7 below", x.test(0, 0, 0, 99, -99, 99), -4);
        DUE.is("another's second", x.test(1, 99, 9999, 99, -99, 99), 2);
        DUE.is("count(14)", x.count(14), 8);
        DUE.is("count(16)", x.count(16), 6);
    }

    private static void leak() {
        SaltRooms x = one();
        DUE.is("without tests", x.leak(0, 0), -9999);
        DUE.is("without tests", x.leak(0, 1), 9999);
        // A day 95 .. 105 by 10: 10 in all, of which 1 .. 3 are made.
        x.test(0, 10, 100, 5, 1, 3);
        DUE.is("least", x.leak(0, 0), 7);
        DUE.is("greatest", x.leak(0, 1), 9);
        // 40 .. 60 by 5: 8 .. 12, of which -1 .. 0 are made.
        x.test(0, 5, 50, 10, -1, 0);
        DUE.is("least", x.leak(0, 0), 8);
        DUE.is("greatest", x.leak(0, 1), 9);
        x.test(0, 1, 9, 0, 0, 0);
        DUE.is("least", x.leak(0, 0), 9);
        DUE.is("greatest", x.leak(0, 1), 9);
        x.test(0, 1, 10, 0, 0, 0);
        DUE.is("none fits", x.leak(0, 0), 10000);
        DUE.is("none fits", x.leak(0, 1), 10000);
        x.test(0, 1, 9, 99, -99, 99);
        DUE.is("none fits still", x.leak(0, 0), 10000);
    }

    private static void leakCut() {
        SaltRooms x = one();
        // 9 .. 11 by 10 is 1; 11 .. 19 by 10 is none; -9 .. 9 by 10 is 0; -10 .. 10 by 10 is -1 .. 1.
        x.test(0, 10, 10, 1, 0, 0);
        DUE.is("least", x.leak(0, 0), 1);
        DUE.is("greatest", x.leak(0, 1), 1);
        SaltRooms y = one();
        y.test(0, 10, 15, 4, -99, 99);
        DUE.is("no whole number", y.leak(0, 0), 10000);
        DUE.is("no whole number", y.leak(0, 1), 10000);
        SaltRooms z = one();
        z.test(0, 10, 0, 9, 0, 0);
        DUE.is("least", z.leak(0, 0), 0);
        DUE.is("greatest", z.leak(0, 1), 0);
        SaltRooms v = one();
        v.test(0, 10, 0, 10, 0, 0);
        DUE.is("least", v.leak(0, 0), -1);
        DUE.is("greatest", v.leak(0, 1), 1);
        SaltRooms w = one();
        w.test(0, 10, 0, 11, 0, 0);
        DUE.is("least", w.leak(0, 0), -1);
        DUE.is("greatest", w.leak(0, 1), 1);
    }

    private static void leakAtItsBounds() {
        SaltRooms x = one();
        x.test(0, 1, 9999, 10, -5, 5);
        DUE.is("least", x.leak(0, 0), 9984);
        DUE.is("9999 at most", x.leak(0, 1), 9999);
        SaltRooms y = one();
        y.test(0, 1, 9999, 0, -99, -1);
        DUE.is("all above 9999", y.leak(0, 0), 10000);
        DUE.is("all above 9999", y.leak(0, 1), 10000);
        SaltRooms z = one();
        z.test(0, 1, 0, 99, -99, 99);
        DUE.is("least", z.leak(0, 0), -198);
        DUE.is("greatest", z.leak(0, 1), 198);
    }

    private static void leakRefused() {
        SaltRooms x = one();
        DUE.is("no cavern", x.leak(1, 5), -1);
        DUE.is("no cavern", x.leak(-1, 0), -1);
        DUE.is("no what", x.leak(0, 2), -2);
        DUE.is("no what", x.leak(0, -1), -2);
    }

    private static void howLong() {
        SaltRooms x = new SaltRooms();
        DUE.is("2 a day, twice 10", x.howLong(5, 3, 10), 11);
        DUE.is("the other way", x.howLong(3, 5, 10), 11);
        DUE.is("3 a day, twice 10", x.howLong(0, 3, 10), 7);
        DUE.is("without doubt", x.howLong(3, 4, 0), 1);
        DUE.is("the same", x.howLong(4, 4, 0), -9);
        DUE.is("999 days", x.howLong(0, 1, 499), 999);
        DUE.is("1000 days", x.howLong(0, 1, 500), -9);
        DUE.is("far", x.howLong(999, 0, 9999), 21);
        DUE.is("20 a day", x.howLong(21, 1, 9989), 999);
        DUE.is("20 a day", x.howLong(21, 1, 9990), -9);
        DUE.is("nothing is counted", x.count(14) + x.count(16), 0);
    }

    private static void howLongRefused() {
        SaltRooms x = new SaltRooms();
        DUE.is("one -1", x.howLong(-1, 1000, 0), -4);
        DUE.is("other -1", x.howLong(1000, -1, 0), -4);
        DUE.is("doubt -1", x.howLong(1000, 0, -1), -4);
        DUE.is("one 1000", x.howLong(1000, 0, 0), -6);
        DUE.is("other 1000", x.howLong(0, 1000, 0), -6);
        DUE.is("doubt 10000", x.howLong(0, 0, 10000), -6);
        DUE.is("the greatest", x.howLong(999, 999, 9999), -9);
    }

    private static void need() {
        SaltRooms x = new SaltRooms();
        DUE.is("day -1", x.need(-1, -1), -1);
        DUE.is("day 12", x.need(12, 1000), -1);
        DUE.is("need -1", x.need(0, -1), -4);
        DUE.is("need 1000", x.need(11, 1000), -6);
        DUE.is("need(11, 999)", x.need(11, 999), 0);
        DUE.is("need(11, 0)", x.need(11, 0), 999);
        DUE.is("need(0, 5)", x.need(0, 5), 0);
        DUE.is("need(0, 6)", x.need(0, 6), 5);
    }

    private static void gives() {
        SaltRooms x = one();
        DUE.is("no cavern", x.gives(1, -1), -1);
        DUE.is("no cavern", x.gives(-1, 5), -1);
        DUE.is("gives -1", x.gives(0, -1), -4);
        DUE.is("gives 1000", x.gives(0, 1000), -6);
        DUE.is("gives(0, 999)", x.gives(0, 999), 0);
        DUE.is("gives(0, 0)", x.gives(0, 0), 999);
        DUE.is("gives(0, 7)", x.gives(0, 7), 0);
        x.giveUp(0);
        DUE.is("a given up one", x.gives(0, 8), 7);
    }

    /** Three CAVERNS of 60, 20, 100 OIL that give 10, 20, 5 a DAY. */
    private static SaltRooms stores() {
        SaltRooms x = Build.strong();
        int[] oil = {60, 20, 100};
        int[] aDay = {10, 20, 5};
        for (int i = 0; i < 3; i++) {
            Build.cavern(x, 300 * i, 3, 200, 200);
            x.fill(i, false, oil[i], true);
            x.gives(i, aDay[i]);
        }
        return x;
    }

    private static void given() {
        SaltRooms x = stores();
        DUE.is("nothing is needed", x.given(-1), 0);
        x.need(0, 50);
        // 10, 20 and 5 on day 0.
        DUE.is("a day", x.given(0), 35);
        DUE.is("in all", x.given(-1), 35);
        x.need(3, 30);
        DUE.is("day 0 as before", x.given(0), 35);
        DUE.is("the second is empty", x.given(3), 15);
        DUE.is("in all", x.given(-1), 50);
        x.need(0, 12);
        // 12 may come from 0 and 2; then 20 of the second are left for day 3.
        DUE.is("day 0", x.given(0), 12);
        DUE.is("day 3", x.given(3), 30);
        DUE.is("between them", x.given(1), 0);
        for (int day = 4; day < 12; day++) {
            x.need(day, 999);
        }
        // Day 3 takes 15 of the second, which has 5 left; the first gives 10, the third 5 a day.
        DUE.is("day 4", x.given(4), 20);
        DUE.is("in all", x.given(-1), 12 + 30 + 20 + sum(x, 5, 11));
        DUE.is("nothing is drawn", x.has(0, -1, false), 180);
        DUE.is("day 12", x.given(12), -1);
        DUE.is("day -2", x.given(-2), -1);
        DUE.is("count(11)", x.count(11), 2);
    }

    private static int sum(SaltRooms x, int from, int to) {
        int sum = 0;
        for (int day = from; day <= to; day++) {
            sum += x.given(day);
        }
        return sum;
    }

    private static void givenOfStates() {
        SaltRooms x = stores();
        x.need(2, 999);
        DUE.is("all three", x.given(2), 35);
        x.close(1);
        DUE.is("a shut one gives", x.given(2), 35);
        x.giveUp(0);
        DUE.is("a given up one does not", x.given(2), 25);
        DUE.is("in all", x.given(-1), 25);
        x.giveUp(1);
        x.giveUp(2);
        DUE.is("none", x.given(-1), 0);
        DUE.is("no set", x.proof(11), 0);
    }

    /** A late DAY that only one CAVERN can serve gives way to an early one; the most in all stays. */
    private static void givenInOrder() {
        SaltRooms x = Build.strong();
        Build.cavern(x, 0, 3, 200, 200);
        x.fill(0, false, 10, true);
        x.gives(0, 8);
        x.need(1, 5);
        x.need(2, 999);
        x.need(3, 999);
        DUE.is("day 0", x.given(0), 0);
        DUE.is("day 1", x.given(1), 5);
        DUE.is("day 2", x.given(2), 5);
        DUE.is("day 3", x.given(3), 0);
        x.need(0, 999);
        DUE.is("day 0", x.given(0), 8);
        DUE.is("day 1", x.given(1), 2);
        DUE.is("day 2", x.given(2), 0);
    }

    private static void proof() {
        SaltRooms x = stores();
        DUE.is("nothing needed: all of them prove 0", x.proof(0), 7);
        x.need(0, 50);
        // {0, 1, 2}: 35; {0, 2}: 20 and 15; the least set of 35 is 5.
        DUE.is("proof(0)", x.proof(0), 5);
        x.need(1, 999);
        // {0, 2}: 20 and 30; {0, 1, 2}: 70; {2}: 80 and 10.
        DUE.is("proof(1)", x.proof(1), 5);
        x.need(0, 0);
        DUE.is("35 by all, 20 and 15 by 5", x.proof(1), 5);
        for (int day = 2; day < 12; day++) {
            x.need(day, 999);
        }
        // {2}: 80 and 55; {0, 2}: 20 and 165; {}: 180.
        DUE.is("proof(11)", x.proof(11), 4);
        x.giveUp(2);
        // {}: 80; {0}: 20 and 110; {1}: 60 and 220.
        DUE.is("without the third", x.proof(11), 0);
        DUE.is("day -1", x.proof(-1), -1);
        DUE.is("day 12", x.proof(12), -1);
        DUE.is("no caverns", new SaltRooms().proof(11), 0);
    }

    private static void aim() {
        SaltRooms x = new SaltRooms();
        DUE.is("level -1", x.aim(-1, -1), -1);
        DUE.is("level 30", x.aim(30, 5), -1);
        DUE.is("aim -1", x.aim(0, -1), -4);
        DUE.is("aim 100000", x.aim(29, 100000), -6);
        DUE.is("aim(29, 99999)", x.aim(29, 99999), 0);
        DUE.is("aim(29, 0)", x.aim(29, 0), 99999);
        DUE.is("aim(0, 5)", x.aim(0, 5), 0);
    }

    private static void choice() {
        SaltRooms x = new SaltRooms();
        DUE.is("water -1", x.choice(-1, 0, 0), -1);
        DUE.is("water 30", x.choice(30, 0, 5), -1);
        DUE.is("brine -1", x.choice(0, -1, 5), -1);
        DUE.is("brine 30", x.choice(0, 30, 100), -1);
        DUE.is("n 0", x.choice(0, 0, 0), -4);
        DUE.is("n 100", x.choice(0, 0, 100), -6);
        for (int i = 1; i <= 5; i++) {
            DUE.is("choice " + i, x.choice(0, 29, 99), i);
        }
        DUE.is("choice 6", x.choice(0, 29, 99), -6);
        DUE.is("choice 6 below", x.choice(0, 29, 0), -4);
        DUE.is("count(3)", x.count(3), 5);
    }

    private static void noChoices() {
        SaltRooms x = new SaltRooms();
        DUE.is("none", x.noChoices(), 0);
        x.choice(3, 3, 50);
        x.choice(4, 3, 50);
        DUE.is("two", x.noChoices(), 2);
        DUE.is("none", x.count(3), 0);
        DUE.is("from the first again", x.choice(4, 3, 50), 1);
    }

    /** By n = 21 and 41 the lowest RING loses 18 and 36. */
    private static void plan() {
        SaltRooms x = one();
        x.set(2, 0);
        DUE.is("no choices", x.plan(0, 1, 0), -9);
        DUE.is("no choices", x.plan(0, 5, 5), -9);
        x.choice(5, 5, 21);
        x.choice(5, 5, 41);
        DUE.is("no aims", x.plan(0, 3, 0), 0);
        DUE.is("the first", x.plan(0, 3, 1) + x.plan(0, 3, 2) + x.plan(0, 3, 3), 0);
        x.aim(5, 75);
        x.aim(6, 99);
        DUE.is("one step: 37", x.plan(0, 1, 0), 38);
        DUE.is("the second", x.plan(0, 1, 1), 1);
        DUE.is("two steps: 73", x.plan(0, 2, 0), 2);
        DUE.is("three steps: 73", x.plan(0, 3, 0), 2);
        DUE.is("the first way by choices", x.plan(0, 3, 1) * 100 + x.plan(0, 3, 2) * 10 + x.plan(0, 3, 3), 1);
        DUE.is("no fourth step", x.plan(0, 3, 4), -9);
        DUE.is("four steps: 73", x.plan(0, 4, 0), 2);
        DUE.is("five steps: 91", x.plan(0, 5, 0), 16);
        x.aim(3, 3);
        DUE.is("another ring's", x.plan(0, 4, 0), 4);
        x.aim(3, 0);
        DUE.is("no aim", x.plan(0, 4, 0), 2);
        x.aim(5, 1);
        DUE.is("an aim of 1", x.plan(0, 1, 0), 18);
        x.aim(5, 75);
        DUE.is("nothing changed", x.ring(0, 5, 0), 1);
        DUE.is("nothing changed", x.of(0, 0), 0);
        DUE.is("nothing changed", x.of(0, 12) * 10 + x.of(0, 13), 53);
        DUE.is("nothing changed", x.count(4), 0);
        x.string(0, 5, 5, 5);
        x.choice(4, 5, 99);
        x.aim(4, 50);
        DUE.is("under the oil as it is", x.plan(0, 4, 0), 2 + 49);
    }

    /** Of ways with the same sum the first by CHOICES in their order, the first STEP ahead. */
    private static void planOfSeveral() {
        SaltRooms x = one();
        x.aim(4, 10);
        x.aim(5, 10);
        x.choice(3, 3, 1);
        x.choice(5, 5, 10);
        x.choice(4, 4, 10);
        DUE.is("sum", x.plan(0, 2, 0), 0);
        DUE.is("first", x.plan(0, 2, 1), 1);
        DUE.is("second", x.plan(0, 2, 2), 2);
        DUE.is("sum", x.plan(0, 3, 0), 0);
        DUE.is("the empty step first", x.plan(0, 3, 1) * 100 + x.plan(0, 3, 2) * 10 + x.plan(0, 3, 3), 12);
    }

    /** SIZE 90, 179 at 20 from SIZE 1: walls 10 and 6. */
    private static void planAndWalls() {
        SaltRooms x = one();
        x.cavern(25, 5, 5);
        x.choice(5, 5, 99);
        x.aim(5, 400);
        DUE.is("one step", x.plan(0, 1, 0), 310);
        DUE.is("two steps", x.plan(0, 2, 0), -9);
        DUE.is("two steps", x.plan(0, 2, 1), -9);
        x.choice(4, 4, 99);
        DUE.is("two steps", x.plan(0, 2, 0), 310);
        DUE.is("two steps", x.plan(0, 2, 1), 0);
        DUE.is("two steps", x.plan(0, 2, 2), 1);
        x.choice(6, 4, 99);
        DUE.is("a level that it has not", x.plan(0, 2, 0), 310);
        x.noChoices();
        x.choice(6, 4, 99);
        DUE.is("none but that", x.plan(0, 1, 0), -9);
        x.noChoices();
        x.choice(4, 2, 99);
        DUE.is("none but that", x.plan(0, 1, 0), -9);
        x.noChoices();
        x.choice(4, 5, 50);
        x.set(2, 19);
        DUE.is("walls that are too thin as it is", x.plan(0, 1, 0), -9);
    }

    /** As in fullRings of WashTest: behind the first STEP only LEVELS 0 and 1 are left. */
    private static void planOverFullRings() {
        SaltRooms x = Due.rooms("d930");
        x.cavern(5, 0, 3);
        x.choice(3, 1, 50);
        x.aim(3, 50);
        x.aim(1, 50);
        DUE.is("a step: 46 and 46", x.plan(0, 1, 0), 8);
        DUE.is("not twice", x.plan(0, 2, 0), -9);
        x.choice(1, 1, 5);
        DUE.is("then the other one: 46 and 50", x.plan(0, 2, 0), 4);
        DUE.is("then the other one", x.plan(0, 2, 1) * 10 + x.plan(0, 2, 2), 1);
    }

    private static void planRefused() {
        SaltRooms x = one();
        x.choice(5, 5, 21);
        DUE.is("no cavern", x.plan(1, 0, 9), -1);
        DUE.is("no cavern", x.plan(-1, 1, 0), -1);
        DUE.is("what -1", x.plan(0, 0, -1), -2);
        DUE.is("what 6", x.plan(0, 6, 6), -2);
        DUE.is("m 0", x.plan(0, 0, 5), -4);
        DUE.is("m 6", x.plan(0, 6, 5), -6);
        x.fill(0, true, 1, true);
        DUE.is("kept", x.plan(0, 0, 5), -3);
        x.giveUp(0);
        DUE.is("given up", x.plan(0, 0, 0), -3);
        DUE.is("-9 is not counted", x.count(11) + x.count(12) + x.count(13) + x.count(14) + x.count(16), 8);
    }
}

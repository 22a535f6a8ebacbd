/** Promises 12 to 22: YEARS, CREEP, what is kept, LOTS, LAND, CLOSED, given up, BREACH. */
public final class YearsTest {
    private static final Due DUE = new Due("YearsTest");

    public static void main(String[] args) {
        years();
        yearsOfStates();
        yearsUnderPush();
        yearsFillRings();
        yearsUnderGreatPush();
        yearsInWholeNumbers();
        set();
        between();
        fillOil();
        fillGas();
        fillMarks();
        fillAboveMostDrawn();
        fillRefused();
        lots();
        lotsAtMost();
        lotsPutTogether();
        owner();
        has();
        spread();
        sinks();
        sinksFar();
        worst();
        close();
        giveUp();
        breach();
        breachAtItsLastYear();
        breachRefused();
        DUE.end();
    }

    /** RINGS 35, 80, 90 from LEVEL 10 on. */
    private static SaltRooms three() {
        SaltRooms x = new SaltRooms();
        x.cavern(100, 10, 12);
        x.step(0, 99);
        return x;
    }

    private static void sizes(String when, SaltRooms x, int cavern, int roof, int... sizes) {
        for (int i = 0; i < sizes.length; i++) {
            DUE.is(when + ": ring " + (roof + i), x.ring(cavern, roof + i, 0), sizes[i]);
        }
    }

    private static void years() {
        SaltRooms x = three();
        DUE.is("years(0)", x.years(0), -4);
        DUE.is("years(-1)", x.years(-1), -4);
        DUE.is("years(21)", x.years(21), -6);
        DUE.is("years(greatest)", x.years(Integer.MAX_VALUE), -6);
        DUE.is("count(0)", x.count(0), 0);
        x.set(1, 99);
        x.set(0, 50);
        DUE.is("years(1)", x.years(1), 1);
        sizes("a year", x, 0, 10, 32, 72, 81);
        DUE.is("years(1)", x.years(1), 2);
        sizes("two years", x, 0, 10, 29, 65, 73);
        DUE.is("years(20)", x.years(20), 22);
        DUE.is("years(20)", x.years(20), 42);
        DUE.is("years(19)", x.years(19), -6);
        DUE.is("years(18)", x.years(18), 60);
        DUE.is("years(1)", x.years(1), -6);
        DUE.is("years(0)", x.years(0), -4);
        DUE.is("count(0)", x.count(0), 60);
        SaltRooms y = three();
        y.set(1, 99);
        y.set(0, 50);
        y.years(2);
        sizes("two years at once", y, 0, 10, 29, 65, 73);
        SaltRooms z = new SaltRooms();
        DUE.is("years without caverns", z.years(20), 20);
    }

    private static void yearsOfStates() {
        SaltRooms x = new SaltRooms();
        for (int i = 0; i < 5; i++) {
            x.cavern(i * 200, 10, 12);
            x.step(i, 99);
        }
        x.fill(1, false, 1, true);
        x.close(2);
        x.giveUp(3);
        x.set(1, 99);
        x.set(0, 50);
        x.years(1);
        sizes("washed", x, 0, 10, 32, 72, 81);
        sizes("kept", x, 1, 10, 32, 72, 81);
        sizes("shut", x, 2, 10, 32, 72, 81);
        sizes("given up", x, 3, 10, 35, 80, 90);
        sizes("by LOW", x, 4, 10, 32, 72, 81);
    }

    /** GAS 800 by ROOM 205 is 3, a YEAR on by 188 it is 4. */
    private static void yearsUnderPush() {
        SaltRooms x = three();
        x.fill(0, true, 800, true);
        x.set(1, 50);
        x.set(0, 50);
        DUE.is("PUSH", x.of(0, 5), 3);
        x.years(1);
        sizes("a year under 3", x, 0, 10, 33, 73, 82);
        DUE.is("PUSH", x.of(0, 5), 4);
        x.years(1);
        sizes("a year under 4", x, 0, 10, 31, 67, 75);
        // No ring loses anything when PUSH is LEVEL and 10, or more.
        SaltRooms y = Build.strong();
        Build.cavern(y, 5, 1, 300, 300);
        y.fill(0, false, 599, true);
        y.fill(0, true, 1, true);
        y.set(1, 99);
        y.set(0, 99);
        DUE.is("PUSH", y.of(0, 5), 1);
        y.years(1);
        // 300 times 99 times 10 by 10000; of the one below times 11.
        sizes("under 1", y, 0, 1, 271, 268);
        DUE.is("PUSH in what is left", y.of(0, 5), 1);
    }

    private static void yearsFillRings() {
        SaltRooms x = Due.rooms("d930");
        x.cavern(5, 20, 21);
        x.string(0, 21, 21, 21);
        x.step(0, 50);
        x.set(1, 99);
        x.set(0, 99);
        DUE.is("not full", x.ring(0, 21, 2), 0);
        // 46 less 46 times 99 times 31 by 10000: 32 is not above 40.
        x.years(1);
        DUE.is("full", x.ring(0, 21, 2), 1);
        DUE.is("THE FLOOR", x.of(0, 3), 8);
        DUE.is("its SIZE stays", x.ring(0, 21, 0), 32);
        DUE.is("what fell is as it was", x.of(0, 2), 40);
        x.years(1);
        DUE.is("its SIZE stays", x.ring(0, 21, 0), 32);
    }

    /** When RINGS creep below what OIL fills, all GAS is a PUSH: here 19, and LEVEL 2 and 10 are less. */
    private static void yearsUnderGreatPush() {
        SaltRooms x = Build.strong();
        Build.cavern(x, 5, 1, 400, 400);
        x.fill(0, false, 790, true);
        x.fill(0, true, 19, true);
        x.set(1, 99);
        x.set(0, 99);
        DUE.is("PUSH", x.of(0, 5), 1);
        x.years(1);
        sizes("a year", x, 0, 1, 361, 357);
        DUE.is("PUSH", x.of(0, 5), 19);
        DUE.is("ROOM", x.of(0, 4), 718);
        x.years(3);
        sizes("nothing creeps", x, 0, 1, 361, 357);
        DUE.is("nor between", x.between(0, 2, 60, false), 357);
    }

    /** 100 times 50 times 20 by 10000 is just 10. */
    private static void yearsInWholeNumbers() {
        SaltRooms x = Build.strong();
        Build.cavern(x, 5, 10, 100, 99);
        x.set(1, 50);
        x.set(0, 50);
        x.years(1);
        sizes("a year", x, 0, 10, 90, 89);
    }

    private static void set() {
        SaltRooms x = new SaltRooms();
        DUE.is("set(-1, 5)", x.set(-1, 5), -2);
        DUE.is("set(4, -1)", x.set(4, -1), -2);
        int[] most = {99, 99, 999, 99};
        for (int what = 0; what < 4; what++) {
            DUE.is("set below", x.set(what, -1), -4);
            DUE.is("set above", x.set(what, most[what] + 1), -6);
        }
        DUE.is("set(3, 0)", x.set(3, 0), -4);
        DUE.is("set(0, 6)", x.set(0, 6), -3);
        DUE.is("set(1, 1)", x.set(1, 1), -3);
        DUE.is("set(0, 5)", x.set(0, 5), 2);
        DUE.is("set(1, 4)", x.set(1, 4), -3);
        DUE.is("set(1, 99)", x.set(1, 99), 5);
        DUE.is("set(0, 99)", x.set(0, 99), 5);
        DUE.is("set(0, 0)", x.set(0, 0), 99);
        DUE.is("set(1, 0)", x.set(1, 0), 99);
        DUE.is("set(1, 7)", x.set(1, 7), 0);
        DUE.is("set(2, 999)", x.set(2, 999), 10);
        DUE.is("set(2, 0)", x.set(2, 0), 999);
        DUE.is("set(3, 99)", x.set(3, 99), 5);
        DUE.is("set(3, 1)", x.set(3, 1), 99);
        DUE.is("set(3, 1)", x.set(3, 1), 1);
        DUE.is("count(13)", x.count(13), 3);
    }

    private static void between() {
        SaltRooms x = three();
        x.set(1, 99);
        x.set(0, 50);
        DUE.is("0 years by HIGH", x.between(0, 12, 0, false), 90);
        DUE.is("0 years by LOW", x.between(0, 12, 0, true), 90);
        DUE.is("1 year by HIGH", x.between(0, 12, 1, false), 71);
        DUE.is("2 years by HIGH", x.between(0, 12, 2, false), 56);
        DUE.is("1 year by LOW", x.between(0, 12, 1, true), 81);
        DUE.is("2 years by LOW", x.between(0, 12, 2, true), 73);
        DUE.is("nothing changed", x.ring(0, 12, 0), 90);
        DUE.is("between(1, ..)", x.between(1, 12, 99, true), -1);
        DUE.is("between above", x.between(0, 9, 99, true), -1);
        DUE.is("between below", x.between(0, 13, 99, true), -1);
        DUE.is("between -1", x.between(0, 12, -1, true), -4);
        DUE.is("between 61", x.between(0, 12, 61, true), -6);
        x.fill(0, true, 800, true);
        // PUSH stays 3: 90 less 90 times 99 times 19 by 10000, then of 74.
        DUE.is("1 year under 3", x.between(0, 12, 1, false), 74);
        DUE.is("2 years under 3", x.between(0, 12, 2, false), 61);
        SaltRooms y = Due.rooms("d930");
        y.cavern(5, 0, 2);
        y.string(0, 2, 1, 0);
        y.step(0, 50);
        DUE.is("of a full one", y.between(0, 2, 1, true), -1);
        DUE.is("of another one", y.between(0, 1, 0, true), 46);
    }

    private static void fillOil() {
        SaltRooms x = three();
        DUE.is("ROOM 205: 205", x.fill(0, false, 205, true), -6);
        DUE.is("ROOM 205: 204", x.fill(0, false, 204, true), 204);
        DUE.is("1 more", x.fill(0, false, 1, true), -6);
        DUE.is("of(0, 6)", x.of(0, 6), 204);
        DUE.is("of(0, 0)", x.of(0, 0), 2);
        DUE.is("205 drawn", x.fill(0, false, 205, false), -3);
        DUE.is("4 drawn", x.fill(0, false, 4, false), 200);
        DUE.is("200 drawn", x.fill(0, false, 200, false), 0);
        DUE.is("1 drawn", x.fill(0, false, 1, false), -3);
        DUE.is("kept all the same", x.of(0, 0), 2);
        SaltRooms y = new SaltRooms();
        y.cavern(5, 10, 10);
        DUE.is("a planned one of ROOM 1", y.fill(0, false, 1, true), -6);
        y.cavern(5, 10, 11);
        DUE.is("a planned one of ROOM 2", y.fill(1, false, 1, true), 1);
        DUE.is("kept", y.of(1, 0), 2);
        DUE.is("not filled", y.of(0, 0), 0);
    }

    private static void fillGas() {
        SaltRooms x = three();
        DUE.is("gas in", x.fill(0, true, 2000, true), 2000);
        DUE.is("of(0, 7)", x.of(0, 7), 2000);
        DUE.is("PUSH", x.of(0, 5), 9);
        DUE.is("all drawn", x.fill(0, true, 2000, false), 0);
        DUE.is("PUSH", x.of(0, 5), 0);
        DUE.is("none left", x.fill(0, true, 1, false), -3);
        // 99999 at most, whatever the room.
        SaltRooms y = Build.strong();
        int[] big = new int[20];
        java.util.Arrays.fill(big, 1000);
        Build.cavern(y, 5, 10, big);
        DUE.is("90000 in", y.fill(0, true, 90000, true), 90000);
        DUE.is("10000 in", y.fill(0, true, 10000, true), -6);
        DUE.is("9999 in", y.fill(0, true, 9999, true), 99999);
        DUE.is("1 in", y.fill(0, true, 1, true), -6);
        DUE.is("PUSH", y.of(0, 5), 4);
    }

    /** ROOM 205 under LEVEL 10: LEAST 2, MOST 10. */
    private static void fillMarks() {
        SaltRooms x = three();
        DUE.is("PUSH would be 11", x.fill(0, true, 2255, true), -7);
        DUE.is("planned nor washed as it was", x.of(0, 0), 1);
        DUE.is("PUSH is 10", x.fill(0, true, 2254, true), 2254);
        DUE.is("oil would make it 11", x.fill(0, false, 1, true), -7);
        DUE.is("gas drawn: 409 are below LEAST", x.fill(0, true, 1845, false), -7);
        DUE.is("gas drawn: 410 are not", x.fill(0, true, 1844, false), 410);
        DUE.is("CUSHION", x.of(0, 10), 410);
        DUE.is("oil in", x.fill(0, false, 5, true), 5);
        DUE.is("CUSHION", x.of(0, 10), 400);
        DUE.is("oil drawn: 410 by 204 are 2", x.fill(0, false, 4, false), 1);
        DUE.is("oil drawn: 410 by 205 are 2", x.fill(0, false, 1, false), 0);
        x.fill(0, false, 10, true);
        x.fill(0, true, 20, false);
        DUE.is("390 by 195", x.of(0, 5), 2);
        DUE.is("oil drawn: 390 by 196", x.fill(0, false, 1, false), -7);
        DUE.is("all gas may be drawn", x.fill(0, true, 390, false), 0);
        DUE.is("without gas oil may be drawn", x.fill(0, false, 1, false), 9);
        DUE.is("gas in may stay below LEAST", x.fill(0, true, 1, true), 1);
        DUE.is("oil in too", x.fill(0, false, 1, true), 10);
        DUE.is("oil drawn below LEAST", x.fill(0, false, 1, false), -7);
        DUE.is("count(17)", x.count(17), 5);
    }

    /** As RINGS creep PUSH may come above MOST: what is drawn must bring it back. */
    private static void fillAboveMostDrawn() {
        SaltRooms x = three();
        x.fill(0, true, 2254, true);
        x.set(1, 99);
        x.set(0, 99);
        x.years(1);
        int room = x.of(0, 4);
        DUE.is("PUSH above MOST", x.of(0, 5) > 10 ? 1 : 0, 1);
        int most = 11 * room - 1;
        DUE.is("drawn, and still above", x.fill(0, true, 2254 - most - 1, false), -7);
        DUE.is("drawn to MOST", x.fill(0, true, 2254 - most, false), most);
    }

    private static void fillRefused() {
        SaltRooms x = three();
        DUE.is("fill(1, ..)", x.fill(1, true, 0, true), -1);
        DUE.is("fill(-1, ..)", x.fill(-1, true, 0, true), -1);
        DUE.is("0 in", x.fill(0, true, 0, true), -4);
        DUE.is("0 drawn", x.fill(0, true, 0, false), -4);
        DUE.is("-1 drawn", x.fill(0, false, -1, false), -4);
        DUE.is("least drawn", x.fill(0, false, Integer.MIN_VALUE, false), -4);
        DUE.is("100000 in", x.fill(0, true, 100000, true), -6);
        DUE.is("greatest in", x.fill(0, false, Integer.MAX_VALUE, true), -6);
        DUE.is("100000 drawn", x.fill(0, true, 100000, false), -3);
        x.close(0);
        DUE.is("shut: 0 in", x.fill(0, true, 0, true), -3);
        x.giveUp(0);
        DUE.is("given up: 0 in", x.fill(0, false, 0, true), -3);
    }

    private static void lots() {
        SaltRooms x = three();
        x.fill(0, false, 10, true);
        x.owner(1);
        x.fill(0, false, 20, true);
        x.owner(0);
        x.fill(0, false, 5, true);
        DUE.is("has(0, 0)", x.has(0, 0, false), 15);
        DUE.is("has(1, 0)", x.has(1, 0, false), 20);
        x.owner(4);
        x.fill(0, false, 12, false);
        DUE.is("has(0, 0)", x.has(0, 0, false), 5);
        DUE.is("has(1, 0)", x.has(1, 0, false), 18);
        DUE.is("has(0, drawn)", x.has(0, 0, true), 10);
        DUE.is("has(1, drawn)", x.has(1, 0, true), 2);
        DUE.is("has(4, drawn)", x.has(4, 0, true), 0);
        x.fill(0, false, 18, false);
        DUE.is("has(0, 0)", x.has(0, 0, false), 5);
        DUE.is("has(1, 0)", x.has(1, 0, false), 0);
        DUE.is("has(1, drawn)", x.has(1, 0, true), 20);
        x.owner(0);
        x.fill(0, false, 7, true);
        DUE.is("has(0, 0)", x.has(0, 0, false), 12);
        x.fill(0, false, 12, false);
        DUE.is("has(0, drawn)", x.has(0, 0, true), 22);
        DUE.is("of(0, 6)", x.of(0, 6), 0);
    }

    private static void lotsAtMost() {
        SaltRooms x = three();
        for (int i = 0; i < 30; i++) {
            x.owner(i % 2);
            DUE.is("lot " + i, x.fill(0, false, 2, true), 2 * i + 2);
        }
        x.owner(0);
        DUE.is("lot 30", x.fill(0, false, 2, true), -6);
        x.owner(1);
        DUE.is("put to the last lot", x.fill(0, false, 2, true), 62);
        DUE.is("gas is no lot", x.fill(0, true, 500, true), 500);
        x.fill(0, true, 500, false);
        x.owner(2);
        DUE.is("a part of the first drawn", x.fill(0, false, 1, false), 61);
        DUE.is("lot 30", x.fill(0, false, 2, true), -6);
        DUE.is("the rest of the first drawn", x.fill(0, false, 1, false), 60);
        DUE.is("lot 29 then", x.fill(0, false, 2, true), 62);
        DUE.is("has(0)", x.has(0, 0, false), 28);
        DUE.is("has(1)", x.has(1, 0, false), 32);
        DUE.is("has(2)", x.has(2, 0, false), 2);
        DUE.is("all drawn", x.fill(0, false, 62, false), 0);
        DUE.is("has(0, drawn)", x.has(0, 0, true), 30);
        DUE.is("has(1, drawn)", x.has(1, 0, true), 32);
        DUE.is("has(2, drawn)", x.has(2, 0, true), 2);
    }

    private static void lotsPutTogether() {
        SaltRooms x = three();
        x.fill(0, false, 1, true);
        x.fill(0, false, 1, true);
        for (int i = 1; i < 30; i++) {
            x.owner(i % 2);
            DUE.is("lot " + i, x.fill(0, false, 1, true), i + 2);
        }
        x.owner(5);
        DUE.is("lot 30", x.fill(0, false, 1, true), -6);
    }

    private static void owner() {
        SaltRooms x = new SaltRooms();
        DUE.is("owner(-1)", x.owner(-1), -1);
        DUE.is("owner(6)", x.owner(6), -1);
        DUE.is("owner(5)", x.owner(5), 0);
        DUE.is("owner(2)", x.owner(2), 5);
        DUE.is("owner(7)", x.owner(7), -1);
        DUE.is("owner(0)", x.owner(0), 2);
    }

    private static void has() {
        SaltRooms x = three();
        x.cavern(500, 10, 12);
        x.step(1, 99);
        x.owner(3);
        x.fill(0, false, 10, true);
        x.fill(1, false, 7, true);
        x.fill(1, false, 3, false);
        DUE.is("in 0", x.has(3, 0, false), 10);
        DUE.is("in 1", x.has(3, 1, false), 4);
        DUE.is("in all", x.has(3, -1, false), 14);
        DUE.is("drawn", x.has(3, -1, true), 3);
        DUE.is("drawn, whatever the cavern", x.has(3, 77, true), 3);
        DUE.is("another's", x.has(2, -1, false), 0);
        DUE.is("no owner", x.has(6, 0, false), -1);
        DUE.is("no owner", x.has(-1, 0, true), -1);
        DUE.is("no cavern", x.has(3, 2, false), -1);
        DUE.is("no cavern", x.has(3, -2, false), -1);
        x.giveUp(0);
        DUE.is("in all, a given up one's too", x.has(3, -1, false), 14);
        DUE.is("count(11)", x.count(11), 4);
    }

    private static void spread() {
        SaltRooms x = new SaltRooms();
        DUE.is("spread(-1)", x.spread(-1), -4);
        DUE.is("spread(1000)", x.spread(1000), -6);
        DUE.is("spread(999)", x.spread(999), 100);
        DUE.is("spread(0)", x.spread(0), 999);
        DUE.is("spread(0)", x.spread(0), 0);
    }

    /** By RATE 50 a CAVERN of 35, 80, 90 loses 20 in a YEAR. */
    private static void sinks() {
        SaltRooms x = three();
        x.cavern(100, 10, 12);
        x.set(2, 0);
        x.cavern(300, 10, 12);
        x.step(2, 99);
        x.set(1, 50);
        x.set(0, 50);
        x.years(1);
        DUE.is("sinks(100)", x.sinks(100), 2);
        DUE.is("sinks(50)", x.sinks(50), 1);
        DUE.is("sinks(150)", x.sinks(150), 1);
        DUE.is("sinks(49)", x.sinks(49), 0);
        DUE.is("sinks(151)", x.sinks(151), 0);
        DUE.is("sinks(999)", x.sinks(999), 0);
        x.spread(300);
        DUE.is("each is cut: 6 and 2", x.sinks(100), 8);
        DUE.is("each is cut: 20 times 255 and 20 times 145", x.sinks(145), 7);
        DUE.is("each is cut: 20 times 245 and 20 times 155", x.sinks(155), 7);
        DUE.is("sinks(200)", x.sinks(200), 8);
        DUE.is("sinks(-2)", x.sinks(-2), -1);
        DUE.is("sinks(1000)", x.sinks(1000), -1);
        // What is washed out is not LOST, nor is what a given up one does not lose.
        x.giveUp(2);
        x.years(1);
        DUE.is("38 times 300 and 20 times 100", x.sinks(100), 13);
        x.spread(0);
        DUE.is("no spread", x.sinks(100), 0);
    }

    private static void sinksFar() {
        SaltRooms x = Build.strong();
        int[] big = new int[30];
        java.util.Arrays.fill(big, 900);
        Build.cavern(x, 100, 0, big);
        x.set(1, 99);
        x.set(0, 99);
        x.years(20);
        DUE.is("near", x.sinks(199) > 10 ? 1 : 0, 1);
        DUE.is("as far as it spreads", x.sinks(200), 0);
        DUE.is("farther", x.sinks(201), 0);
        DUE.is("far", x.sinks(999), 0);
    }

    private static void worst() {
        SaltRooms x = three();
        DUE.is("nothing sinks", x.sinks(-1), 0);
        x.set(1, 50);
        x.set(0, 50);
        x.years(1);
        DUE.is("WORST", x.sinks(-1), 100);
        x.spread(110);
        DUE.is("the least of several", x.sinks(-1), 90);
        x.spread(49);
        DUE.is("nothing sinks so", x.sinks(-1), 0);
        x.spread(999);
        DUE.is("wide: 20 times 950 from 49 off on", x.sinks(-1), 51);
    }

    private static void close() {
        SaltRooms x = three();
        DUE.is("close(-1)", x.close(-1), -1);
        DUE.is("close(1)", x.close(1), -1);
        DUE.is("close(0)", x.close(0), 1);
        DUE.is("of(0, 0)", x.of(0, 0), 3);
        DUE.is("close(0)", x.close(0), -3);
        x.cavern(500, 3, 4);
        DUE.is("a planned one", x.close(1), 1);
        x.cavern(900, 3, 4);
        x.giveUp(2);
        DUE.is("a given up one", x.close(2), -3);
        DUE.is("it stays given up", x.of(2, 0), 4);
    }

    private static void giveUp() {
        SaltRooms x = three();
        DUE.is("giveUp(-1)", x.giveUp(-1), -1);
        DUE.is("giveUp(1)", x.giveUp(1), -1);
        DUE.is("giveUp(0)", x.giveUp(0), 1);
        DUE.is("of(0, 0)", x.of(0, 0), 4);
        DUE.is("giveUp(0)", x.giveUp(0), -3);
        x.cavern(500, 3, 4);
        x.close(1);
        DUE.is("a shut one", x.giveUp(1), 1);
        DUE.is("of(1, 0)", x.of(1, 0), 4);
    }

    /** ROOM 205 under LEVEL 10, GAS 2000: PUSH is 9, MOST is 10. */
    private static void breach() {
        SaltRooms x = three();
        x.fill(0, true, 2000, true);
        x.close(0);
        x.set(1, 99);
        x.set(0, 20);
        int may = x.breach(0, false);
        int must = x.breach(0, true);
        // By 99: 35, 80, 90 lose 3, 9, 11: 182, under 10; then 2000 by 163.
        DUE.is("may", may, 2);
        DUE.is("a year by LOW", x.years(1), 1);
        DUE.is("must is as it was", x.breach(0, true), must);
        for (int year = 2; year < must; year++) {
            x.years(1);
            DUE.is("not above MOST in " + year, x.of(0, 5) > 10 ? 1 : 0, 0);
        }
        x.years(1);
        DUE.is("above MOST in " + must, x.of(0, 5) > 10 ? 1 : 0, 1);
        int now = x.count(0);
        DUE.is("the YEAR that is now, and 1", x.breach(0, false), now + 1);
        SaltRooms y = three();
        y.close(0);
        DUE.is("without gas", y.breach(0, false), -9);
        SaltRooms z = three();
        z.fill(0, true, 2254, true);
        z.close(0);
        z.set(0, 0);
        DUE.is("no creep at all", z.breach(0, true), -9);
        z.years(20);
        z.years(20);
        z.years(20);
        z.set(1, 99);
        DUE.is("behind YEAR 60", z.breach(0, false), 61);
    }

    /** Under LEVEL 0 MOST is 1: by RATE 10 and PUSH 1 nine thousandths creep away in a YEAR. */
    private static void breachAtItsLastYear() {
        int[] sizes = new int[61];
        sizes[0] = 1000;
        for (int i = 1; i <= 60; i++) {
            sizes[i] = sizes[i - 1] - sizes[i - 1] * 10 * 9 / 10000;
        }
        DUE.is("it creeps to the last", sizes[59] > sizes[60] ? 1 : 0, 1);
        breachOfGas(2 * sizes[59], 59);
        breachOfGas(2 * sizes[60], 60);
        breachOfGas(2 * sizes[60] - 1, -9);
    }

    private static void breachOfGas(int gas, int due) {
        SaltRooms x = Build.strong();
        Build.cavern(x, 5, 0, 1000);
        x.set(1, 10);
        DUE.is("gas in", x.fill(0, true, gas, true), gas);
        DUE.is("PUSH", x.of(0, 5), 1);
        x.close(0);
        DUE.is("breach of " + gas, x.breach(0, false), due);
    }

    private static void breachRefused() {
        SaltRooms x = three();
        DUE.is("breach(1, ..)", x.breach(1, false), -1);
        DUE.is("breach(-1, ..)", x.breach(-1, true), -1);
        DUE.is("a washed one", x.breach(0, false), -3);
        x.fill(0, false, 5, true);
        DUE.is("a kept one", x.breach(0, true), -3);
        x.close(0);
        DUE.is("a shut one", x.breach(0, true), -9);
        x.giveUp(0);
        DUE.is("a given up one", x.breach(0, true), -3);
    }
}

/** The edges that the document names under III: YEARS, CREEP, OIL and GAS, PUSH and its marks, LOTS, LAND, CLOSED. */
public final class EdgesOfYearsTest {
    private static final Due DUE = new Due("EdgesOfYearsTest");
    private static final int MIN = Integer.MIN_VALUE;
    private static final int MAX = Integer.MAX_VALUE;

    public static void main(String[] args) {
        yearsFrom1To20();
        yearsTo60();
        ratesFrom0To99();
        lowIsNotAboveHigh();
        creepIsCut();
        oneStays();
        creepOfEachLevel();
        noneAtALevelAnd10();
        pushAheadOfTheYear();
        whoCreeps();
        betweenOf0To60();
        pushIsCut();
        push99AtMost();
        leastAndMostOfEachRoof();
        cushionIsTheLeast();
        notAboveMost();
        notBelowLeastWhenDrawn();
        oilToRoomLess1();
        oilTo99999();
        gasTo99999();
        lessIsThere();
        fillOfEachState();
        fillsOfTwoFaults();
        ownersFrom0To5();
        lotsTo30();
        firstLotsAhead();
        hasOfAll();
        spreadFrom0To999();
        marksFrom0To999();
        worstOfSeveral();
        closedForGood();
        givenUpOnce();
        breachOfTheNext60();
        DUE.end();
    }

    /** RINGS 35, 80, 90 from LEVEL 10 on: ROOM 205. */
    private static SaltRooms three() {
        SaltRooms x = new SaltRooms();
        x.cavern(100, 10, 12);
        x.step(0, 99);
        return x;
    }

    private static void rates(SaltRooms x, int low, int high) {
        x.set(0, 0);
        x.set(1, high);
        x.set(0, low);
    }

    /** "n (1 .. 20) YEARS pass". */
    private static void yearsFrom1To20() {
        SaltRooms x = new SaltRooms();
        for (int n : new int[] {0, -1, -20, MIN}) {
            DUE.is("years(" + n + ")", x.years(n), -4);
        }
        for (int n : new int[] {21, 60, 61, MAX}) {
            DUE.is("years(" + n + ")", x.years(n), -6);
        }
        DUE.is("no YEAR passed", x.count(0), 0);
        DUE.is("years(1)", x.years(1), 1);
        DUE.is("years(20)", x.years(20), 21);
        DUE.is("count(14)", x.count(14), 4);
        DUE.is("count(16)", x.count(16), 4);
    }

    /** "YEARS go on from 0 (60 at most)": to 60 in any steps, and none behind it. */
    private static void yearsTo60() {
        for (int n = 1; n <= 20; n++) {
            SaltRooms x = three();
            int year = 0;
            while (year + n <= 60) {
                year += n;
                DUE.is("years(" + n + ")", x.years(n), year);
            }
            String before = Whole.of(x);
            DUE.is("years(" + n + ") at " + year, x.years(n), -6);
            DUE.is("nothing crept", before.equals(Whole.of(x)) ? 1 : 0, 1);
            if (year < 60) {
                DUE.is("one more than there are", x.years(61 - year), -6);
                DUE.is("all that there are", x.years(60 - year), 60);
            }
            DUE.is("years(1) at 60", x.years(1), -6);
            DUE.is("years(0) at 60", x.years(0), -4);
            DUE.is("years(greatest) at 60", x.years(MAX), -6);
            DUE.is("YEAR", x.count(0), 60);
        }
    }

    /** "RATE is LOW or HIGH (0 .. 99; told, 2 and 5 at first)"; PILLARS 0 .. 999; OVER 1 .. 99. */
    private static void ratesFrom0To99() {
        int[] first = {2, 5, 10, 5};
        int[] least = {0, 2, 0, 1};
        int[] most = {5, 99, 999, 99};
        for (int what = 0; what < 4; what++) {
            SaltRooms x = new SaltRooms();
            DUE.is("set(" + what + ", below)", x.set(what, what == 3 ? 0 : -1), -4);
            DUE.is("set(" + what + ", least int)", x.set(what, MIN), -4);
            DUE.is("set(" + what + ", above)", x.set(what, what == 2 ? 1000 : 100), -6);
            DUE.is("set(" + what + ", greatest int)", x.set(what, MAX), -6);
            DUE.is("set(" + what + ", its least)", x.set(what, least[what]), first[what]);
            DUE.is("set(" + what + ", its most)", x.set(what, most[what]), least[what]);
            DUE.is("set(" + what + ", its most) again", x.set(what, most[what]), most[what]);
        }
        SaltRooms y = new SaltRooms();
        for (int what : new int[] {-1, 4, MIN, MAX}) {
            for (int v : new int[] {-1, 0, 5, 1000, MIN, MAX}) {
                DUE.is("set(" + what + ", " + v + ")", y.set(what, v), -2);
            }
        }
        DUE.is("count(12)", y.count(12), 24);
        DUE.is("none else is counted", y.count(13) + y.count(14) + y.count(16), 0);
    }

    /** "-3 LOW would be above HIGH": they may be the same; a number out of bounds goes ahead. */
    private static void lowIsNotAboveHigh() {
        SaltRooms x = new SaltRooms();
        DUE.is("LOW 6 of 5", x.set(0, 6), -3);
        DUE.is("LOW 99 of 5", x.set(0, 99), -3);
        DUE.is("LOW 100 of 5", x.set(0, 100), -6);
        DUE.is("HIGH 1 of 2", x.set(1, 1), -3);
        DUE.is("HIGH 0 of 2", x.set(1, 0), -3);
        DUE.is("HIGH -1 of 2", x.set(1, -1), -4);
        DUE.is("LOW 5", x.set(0, 5), 2);
        DUE.is("HIGH 5", x.set(1, 5), 5);
        DUE.is("LOW 0", x.set(0, 0), 5);
        DUE.is("HIGH 0", x.set(1, 0), 5);
        DUE.is("LOW 1 of 0", x.set(0, 1), -3);
        DUE.is("LOW 0", x.set(0, 0), 0);
        DUE.is("HIGH 99", x.set(1, 99), 0);
        DUE.is("LOW 99", x.set(0, 99), 0);
        DUE.is("HIGH 98 of 99", x.set(1, 98), -3);
        DUE.is("PILLARS are none of them", x.set(2, 0) + x.set(3, 1), 15);
        DUE.is("count(13)", x.count(13), 6);
        DUE.is("count(14)", x.count(14), 1);
        DUE.is("count(16)", x.count(16), 1);
    }

    /** "by 10000, cut": 101 times 9 times 11 is 9999; 9091 times 11 (no less) is just more than 100000. */
    private static void creepIsCut() {
        SaltRooms x = Build.strong();
        Build.cavern(x, 5, 0, 1, 101, 102);
        rates(x, 9, 9);
        DUE.is("between: 9999 by 10000", x.between(0, 1, 1, true), 101);
        DUE.is("between: 11016 by 10000", x.between(0, 2, 1, true), 101);
        x.years(1);
        DUE.is("9999 by 10000", x.ring(0, 1, 0), 101);
        DUE.is("11016 by 10000", x.ring(0, 2, 0), 101);
        SaltRooms y = Build.strong();
        // LEVEL 10: 100 times 5 times 20 is 10000; 99 times 5 times 20 is 9900; 199 is 19900.
        Build.cavern(y, 5, 9, 1, 100, 99 + 1);
        DUE.is("between: just 10000", y.between(0, 10, 1, false), 99);
        rates(y, 5, 5);
        y.years(1);
        DUE.is("just 10000", y.ring(0, 10, 0), 99);
        y.years(1);
        DUE.is("9900", y.ring(0, 10, 0), 99);
    }

    /** "1 stays". */
    private static void oneStays() {
        SaltRooms x = new SaltRooms();
        x.cavern(5, 0, 29);
        rates(x, 99, 99);
        x.years(20);
        x.years(20);
        x.years(20);
        for (int level = 0; level < 30; level++) {
            DUE.is("SIZE 1", x.ring(0, level, 0), 1);
            DUE.is("between", x.between(0, level, 60, false), 1);
        }
        // At LEVEL 29 of SIZE 2 (and 3) 99 times 39 by 10000 are less than 1.
        SaltRooms y = Build.strong();
        Build.cavern(y, 5, 27, 1, 3, 300);
        rates(y, 99, 99);
        y.years(20);
        y.years(20);
        DUE.is("SIZE 2 of 3", y.ring(0, 28, 0), 2);
        DUE.is("SIZE 2 of 300", y.ring(0, 29, 0), 2);
        DUE.is("LOST", y.sinks(5), 299 * 100 / 1000);
    }

    /** "SIZE times RATE times (LEVEL and 10 ..)": each LEVEL without PUSH, by LOW as YEARS pass. */
    private static void creepOfEachLevel() {
        for (int rate = 0; rate <= 99; rate += 33) {
            SaltRooms x = new SaltRooms();
            for (int k = 0; k < 10; k++) {
                x.law(k, 99);
            }
            x.cavern(5, 0, 29);
            for (int i = 0; i < 20; i++) {
                x.step(0, 99);
            }
            rates(x, rate, 99);
            int[] size = new int[30];
            for (int level = 0; level < 30; level++) {
                size[level] = x.ring(0, level, 0);
                DUE.is("SIZE ahead", size[level], level == 0 ? 1 + 20 * 49 : 1 + 20 * 98);
            }
            for (int year = 1; year <= 3; year++) {
                x.years(1);
                for (int level = 0; level < 30; level++) {
                    size[level] -= size[level] * rate * (level + 10) / 10000;
                    DUE.is("RATE " + rate + ", LEVEL " + level + ", YEAR " + year, x.ring(0, level, 0), size[level]);
                }
            }
        }
    }

    /** "(LEVEL and 10 less PUSH, 0 at least)": PUSH 11 under LEVEL 1, then of LEVEL 2 one remains. */
    private static void noneAtALevelAnd10() {
        SaltRooms x = Build.strong();
        Build.cavern(x, 5, 1, 400, 400, 400);
        DUE.is("OIL", x.fill(0, false, 1190, true), 1190);
        DUE.is("GAS", x.fill(0, true, 11, true), 11);
        rates(x, 99, 99);
        DUE.is("PUSH", x.of(0, 5), 1);
        x.years(1);
        int[] size = {400 - 400 * 99 * 10 / 10000, 400 - 400 * 99 * 11 / 10000, 400 - 400 * 99 * 12 / 10000};
        for (int i = 0; i < 3; i++) {
            DUE.is("under 1", x.ring(0, 1 + i, 0), size[i]);
        }
        DUE.is("no room but 1", x.of(0, 5), 11);
        DUE.is("between: LEVEL 1", x.between(0, 1, 60, false), size[0]);
        DUE.is("between: LEVEL 2", x.between(0, 2, 1, false), size[1] - size[1] * 99 / 10000);
        x.years(1);
        DUE.is("LEVEL 1: 0 by PUSH 11", x.ring(0, 1, 0), size[0]);
        DUE.is("LEVEL 2: 1", x.ring(0, 2, 0), size[1] - size[1] * 99 / 10000);
        DUE.is("LEVEL 3: 2", x.ring(0, 3, 0), size[2] - size[2] * 99 * 2 / 10000);
        // 12 and 13: below 0 is 0.
        DUE.is("GAS drawn is refused, PUSH stays above MOST", x.fill(0, true, 1, false), -7);
    }

    /** "(each by its PUSH ahead of that YEAR)": not by that ahead of the first of several. */
    private static void pushAheadOfTheYear() {
        SaltRooms x = three();
        SaltRooms y = three();
        x.fill(0, true, 1640, true);
        y.fill(0, true, 1640, true);
        rates(x, 99, 99);
        rates(y, 99, 99);
        x.years(7);
        int[] size = {35, 80, 90};
        for (int year = 1; year <= 7; year++) {
            int push = Math.min(99, 1640 / Math.max(1, size[0] + size[1] + size[2]));
            for (int i = 0; i < 3; i++) {
                size[i] -= size[i] * 99 * Math.max(0, 20 + i - push) / 10000;
            }
            y.years(1);
            for (int i = 0; i < 3; i++) {
                DUE.is("YEAR " + year, y.ring(0, 10 + i, 0), size[i]);
            }
        }
        for (int i = 0; i < 3; i++) {
            DUE.is("seven at once", x.ring(0, 10 + i, 0), size[i]);
        }
    }

    /** "all CAVERNS that are not given up creep": planned, washed, kept, shut, CUT ones; a FULL RING does not. */
    private static void whoCreeps() {
        SaltRooms x = new Scenes(Scenes.STATES).make();
        rates(x, 99, 99);
        int[] rooms = new int[5];
        for (int c = 0; c < 5; c++) {
            rooms[c] = x.of(c, 4);
        }
        int full = x.ring(0, 13, 0) * 1000 + x.ring(0, 12, 0);
        DUE.is("a year", x.years(1), 2);
        DUE.is("a washed one", x.of(0, 4) < rooms[0] ? 1 : 0, 1);
        DUE.is("its FULL RINGS", x.ring(0, 13, 0) * 1000 + x.ring(0, 12, 0), full);
        DUE.is("a CUT one", x.of(1, 4) < rooms[1] ? 1 : 0, 1);
        DUE.is("a kept one", x.of(2, 4) < rooms[2] ? 1 : 0, 1);
        SaltRooms y = Build.strong();
        Build.cavern(y, 100, 3, 100, 100);
        Build.cavern(y, 500, 3, 100, 100);
        rates(y, 99, 99);
        y.close(0);
        y.giveUp(1);
        y.years(1);
        DUE.is("a shut one", y.ring(0, 4, 0), 87);
        DUE.is("a given up one", y.ring(1, 4, 0), 100);
        DUE.is("a given up one has LOST nothing", y.sinks(500), 0);
    }

    /** "SIZE n (0 .. 60) YEARS on". */
    private static void betweenOf0To60() {
        SaltRooms x = three();
        rates(x, 3, 40);
        int low = 90;
        int high = 90;
        for (int n = 0; n <= 60; n++) {
            DUE.is("by LOW " + n, x.between(0, 12, n, true), low);
            DUE.is("by HIGH " + n, x.between(0, 12, n, false), high);
            low -= low * 3 * 22 / 10000;
            high -= high * 40 * 22 / 10000;
        }
        for (int n : new int[] {-1, MIN}) {
            DUE.is("between " + n, x.between(0, 12, n, true), -4);
            DUE.is("between " + n + " of no RING", x.between(0, 13, n, true), -1);
        }
        for (int n : new int[] {61, MAX}) {
            DUE.is("between " + n, x.between(0, 12, n, false), -6);
            DUE.is("between " + n + " of no CAVERN", x.between(1, 12, n, false), -1);
        }
        x.years(20);
        x.years(20);
        x.years(20);
        DUE.is("0 YEARS on from YEAR 60", x.between(0, 12, 0, true), x.ring(0, 12, 0));
        DUE.is("60 YEARS on from YEAR 60", x.between(0, 12, 60, false) < x.ring(0, 12, 0) ? 1 : 0, 1);
        SaltRooms y = Due.rooms("d930");
        y.cavern(5, 0, 2);
        y.string(0, 2, 1, 0);
        y.step(0, 50);
        DUE.is("a FULL one", y.between(0, 2, 0, true), -1);
        DUE.is("a FULL one, n below", y.between(0, 2, -1, true), -1);
        DUE.is("the one above it", y.between(0, 1, 0, true), 46);
    }

    /** "PUSH: GAS by (ROOM less OIL, 1 at least), cut": ROOM 205, each GAS around each whole number. */
    private static void pushIsCut() {
        for (int push = 1; push <= 10; push++) {
            for (int oil = 0; oil <= 204; oil += 68) {
                int space = 205 - oil;
                SaltRooms x = three();
                if (oil > 0) {
                    x.fill(0, false, oil, true);
                }
                int gas = push * space;
                if (gas > 1) {
                    DUE.is("GAS", x.fill(0, true, gas - 1, true), gas - 1);
                    DUE.is("one less than by " + push, x.of(0, 5), (gas - 1) / space);
                    DUE.is("one more", x.fill(0, true, 1, true), gas);
                } else {
                    x.fill(0, true, 1, true);
                }
                DUE.is("by " + push, x.of(0, 5), push);
            }
        }
    }

    /** "99 at most", and "1 at least": OIL above ROOM, as RINGS crept. */
    private static void push99AtMost() {
        for (int gas = 97; gas <= 102; gas++) {
            SaltRooms x = Build.strong();
            Build.cavern(x, 5, 20, 100, 100, 100, 100);
            DUE.is("OIL", x.fill(0, false, 380, true), 380);
            DUE.is("GAS", x.fill(0, true, gas, true), gas);
            DUE.is("PUSH", x.of(0, 5), gas / 20);
            rates(x, 99, 99);
            x.years(1);
            DUE.is("ROOM below OIL", x.of(0, 4) < 380 ? 1 : 0, 1);
            DUE.is("PUSH of " + gas, x.of(0, 5), Math.min(gas, 99));
            DUE.is("CUSHION of LEAST 4", x.of(0, 10), 4);
            int ring = x.ring(0, 23, 0);
            x.years(20);
            DUE.is("nothing creeps", x.ring(0, 23, 0), ring);
        }
    }

    /** "By the LEVEL of the ROOF: LEAST: LEVEL by 5, cut; MOST: LEVEL, 1 at least": the lowest LEVEL counts nothing. */
    private static void leastAndMostOfEachRoof() {
        for (int roof = 0; roof < 30; roof++) {
            SaltRooms x = new SaltRooms();
            x.cavern(5, roof, roof);
            x.cavern(500, roof, 29);
            for (int c = 0; c < 2; c++) {
                DUE.is("LEAST of " + roof, x.of(c, 8), roof / 5);
                DUE.is("MOST of " + roof, x.of(c, 9), roof == 0 ? 1 : roof);
                DUE.is("CUSHION of " + roof, x.of(c, 10), roof / 5 * (c == 0 ? 1 : 30 - roof));
            }
            int most = roof == 0 ? 1 : roof;
            DUE.is("PUSH above MOST", x.fill(0, true, most + 1, true), -7);
            DUE.is("planned still", x.of(0, 0), 0);
            DUE.is("PUSH at MOST", x.fill(0, true, most, true), most);
            DUE.is("PUSH", x.of(0, 5), most);
            int least = roof / 5;
            if (least > 1) {
                DUE.is("drawn below LEAST", x.fill(0, true, most - least + 1, false), -7);
            }
            if (least > 0) {
                DUE.is("drawn to LEAST", x.fill(0, true, most - least, false), least);
            }
            DUE.is("all drawn", x.fill(0, true, least > 0 ? least : most, false), 0);
        }
    }

    /** "CUSHION: the least GAS with which it is LEAST or more": with one less it is not. */
    private static void cushionIsTheLeast() {
        for (int roof = 0; roof <= 25; roof += 5) {
            SaltRooms x = Build.strong();
            Build.cavern(x, 5, roof, 50, 60);
            x.fill(0, false, 13, true);
            int cushion = x.of(0, 10);
            DUE.is("CUSHION of " + roof, cushion, roof / 5 * 97);
            if (cushion > 0) {
                x.fill(0, true, cushion - 1, true);
                DUE.is("one less", x.of(0, 5), roof / 5 - 1);
                x.fill(0, true, 1, true);
            }
            DUE.is("it", x.of(0, 5), roof / 5);
            DUE.is("GAS counts nothing for it", x.of(0, 10), cushion);
        }
        SaltRooms y = three();
        y.giveUp(0);
        DUE.is("of a given up one", y.of(0, 10), 410);
    }

    /** "Refused is what would make PUSH above MOST": by GAS, by OIL; it may be MOST. */
    private static void notAboveMost() {
        SaltRooms x = three();
        DUE.is("GAS of 11", x.fill(0, true, 2255, true), -7);
        DUE.is("nothing in it", x.of(0, 7) + x.of(0, 0), 1);
        DUE.is("GAS of 10", x.fill(0, true, 2254, true), 2254);
        DUE.is("1 more", x.fill(0, true, 1, true), -7);
        DUE.is("1 OIL", x.fill(0, false, 1, true), -7);
        DUE.is("no OIL", x.of(0, 6), 0);
        x.fill(0, true, 1254, false);
        // 1000 by 91 is 10, by 90 11.
        DUE.is("115 OIL", x.fill(0, false, 115, true), -7);
        DUE.is("114 OIL", x.fill(0, false, 114, true), 114);
        DUE.is("PUSH", x.of(0, 5), 10);
        DUE.is("count(17)", x.count(17), 4);
    }

    /** "and what is drawn if GAS is left and PUSH would be below LEAST": GAS or OIL; what comes in is not refused so. */
    private static void notBelowLeastWhenDrawn() {
        SaltRooms x = three();
        DUE.is("GAS in below LEAST", x.fill(0, true, 1, true), 1);
        DUE.is("OIL in below LEAST", x.fill(0, false, 10, true), 10);
        DUE.is("OIL drawn", x.fill(0, false, 1, false), -7);
        DUE.is("all OIL drawn", x.fill(0, false, 10, false), -7);
        DUE.is("GAS in", x.fill(0, true, 389, true), 390);
        DUE.is("390 by 195: LEAST", x.of(0, 5), 2);
        DUE.is("GAS drawn", x.fill(0, true, 1, false), -7);
        DUE.is("OIL drawn", x.fill(0, false, 1, false), -7);
        DUE.is("all but one GAS drawn", x.fill(0, true, 389, false), -7);
        DUE.is("all GAS drawn", x.fill(0, true, 390, false), 0);
        DUE.is("OIL drawn without GAS", x.fill(0, false, 10, false), 0);
        DUE.is("count(17)", x.count(17), 5);
        // Under LEVEL 4 LEAST is 0: nothing is below it.
        SaltRooms y = Build.strong();
        Build.cavern(y, 5, 4, 50, 60);
        y.fill(0, false, 30, true);
        y.fill(0, true, 2, true);
        DUE.is("OIL drawn", y.fill(0, false, 30, false), 0);
        DUE.is("GAS drawn", y.fill(0, true, 1, false), 1);
    }

    /** "OIL may be up to ROOM less 1". */
    private static void oilToRoomLess1() {
        for (int rings = 1; rings <= 5; rings++) {
            SaltRooms x = new SaltRooms();
            x.cavern(5, 10, 9 + rings);
            DUE.is("ROOM itself", x.fill(0, false, rings, true), -6);
            DUE.is("planned still", x.of(0, 0), 0);
            if (rings > 1) {
                DUE.is("one less", x.fill(0, false, rings - 1, true), rings - 1);
                DUE.is("1 more", x.fill(0, false, 1, true), -6);
                DUE.is("kept", x.of(0, 0), 2);
            }
        }
        // ROOM crept below OIL: no more comes in, all may be drawn.
        SaltRooms y = three();
        y.fill(0, false, 200, true);
        rates(y, 99, 99);
        y.years(5);
        DUE.is("ROOM below OIL", y.of(0, 4) < 200 ? 1 : 0, 1);
        DUE.is("1 in", y.fill(0, false, 1, true), -6);
        DUE.is("greatest in", y.fill(0, false, MAX, true), -6);
        int room = y.of(0, 4);
        DUE.is("drawn to ROOM", y.fill(0, false, 200 - room, false), room);
        DUE.is("1 in", y.fill(0, false, 1, true), -6);
        DUE.is("drawn to ROOM less 2", y.fill(0, false, 2, false), room - 2);
        DUE.is("2 in", y.fill(0, false, 2, true), -6);
        DUE.is("1 in", y.fill(0, false, 1, true), room - 1);
    }

    /** "OIL .. (0 .. 99999 each)": in a ROOM above 100000. */
    private static void oilTo99999() {
        SaltRooms x = new SaltRooms();
        for (int k = 0; k < 10; k++) {
            x.law(k, 99);
        }
        x.cavern(5, 0, 29);
        for (int i = 0; i < 36; i++) {
            x.step(0, 99);
        }
        DUE.is("ROOM", x.of(0, 4), 30 + 36 * (29 * 98 + 49));
        DUE.is("100000", x.fill(0, false, 100000, true), -6);
        DUE.is("99999", x.fill(0, false, 99999, true), 99999);
        DUE.is("1 more", x.fill(0, false, 1, true), -6);
        DUE.is("99999 more", x.fill(0, false, 99999, true), -6);
        DUE.is("has(0, -1)", x.has(0, -1, false), 99999);
        DUE.is("100000 drawn", x.fill(0, false, 100000, false), -3);
        DUE.is("99999 drawn", x.fill(0, false, 99999, false), 0);
        DUE.is("drawn in all", x.has(0, -1, true), 99999);
        DUE.is("1 drawn", x.fill(0, false, 1, false), -3);
    }

    /** "GAS (0 .. 99999 ..)": in a ROOM in which that is no great PUSH. */
    private static void gasTo99999() {
        SaltRooms x = new SaltRooms();
        for (int k = 0; k < 10; k++) {
            x.law(k, 99);
        }
        x.cavern(5, 2, 29);
        for (int i = 0; i < 30; i++) {
            x.step(0, 99);
        }
        DUE.is("100000", x.fill(0, true, 100000, true), -6);
        DUE.is("99999", x.fill(0, true, 99999, true), 99999);
        DUE.is("PUSH", x.of(0, 5), 1);
        DUE.is("1 more", x.fill(0, true, 1, true), -6);
        DUE.is("greatest more", x.fill(0, true, MAX, true), -6);
        DUE.is("1 drawn", x.fill(0, true, 1, false), 99998);
        DUE.is("2 more", x.fill(0, true, 2, true), -6);
        DUE.is("1 more", x.fill(0, true, 1, true), 99999);
        DUE.is("all drawn", x.fill(0, true, 99999, false), 0);
    }

    /** "-3 .. less is there". */
    private static void lessIsThere() {
        SaltRooms x = three();
        DUE.is("no OIL", x.fill(0, false, 1, false), -3);
        DUE.is("no GAS", x.fill(0, true, 1, false), -3);
        DUE.is("washed still", x.of(0, 0), 1);
        x.fill(0, false, 7, true);
        x.fill(0, true, 500, true);
        DUE.is("8 OIL", x.fill(0, false, 8, false), -3);
        DUE.is("501 GAS", x.fill(0, true, 501, false), -3);
        DUE.is("greatest", x.fill(0, true, MAX, false), -3);
        DUE.is("7 OIL", x.fill(0, false, 7, false), 0);
        DUE.is("500 GAS", x.fill(0, true, 500, false), 0);
        DUE.is("count(13)", x.count(13), 5);
    }

    private static void fillOfEachState() {
        SaltRooms x = new Scenes(Scenes.STATES).make();
        int[] due = {1, 1, 1201, -3, -3, -1, -1};
        int[] caverns = {0, 1, 2, 3, 4, 5, -1};
        for (int i = 0; i < caverns.length; i++) {
            DUE.is("fill(" + caverns[i] + ", gas)", x.fill(caverns[i], true, 1, true), due[i]);
            DUE.is("fill(" + caverns[i] + ", gas out)", x.fill(caverns[i], true, 1, false), due[i] > 0 ? due[i] - 1 : due[i]);
            DUE.is("fill(" + caverns[i] + ", 0)", x.fill(caverns[i], true, 0, true), due[i] < 0 ? due[i] : -4);
            DUE.is("fill(" + caverns[i] + ", 100000)", x.fill(caverns[i], true, 100000, true), due[i] < 0 ? due[i] : -6);
        }
    }

    /** Two of them at once: the first in their order. */
    private static void fillsOfTwoFaults() {
        SaltRooms x = three();
        DUE.is("-1 ahead of -4", x.fill(1, true, 0, true), -1);
        DUE.is("-1 ahead of -6", x.fill(1, true, 100000, true), -1);
        DUE.is("-3 ahead of -6", x.fill(0, true, 100000, false), -3);
        DUE.is("-3 ahead of -7", x.fill(0, true, 5000, false), -3);
        DUE.is("-6 (a number) ahead of -7", x.fill(0, true, 100000, true), -6);
        x.fill(0, true, 2254, true);
        DUE.is("-6 (in all) ahead of -7", x.fill(0, true, 99999, true), -6);
        DUE.is("-6 (ROOM) ahead of -7", x.fill(0, false, 205, true), -6);
        DUE.is("-7", x.fill(0, false, 204, true), -7);
        x.close(0);
        DUE.is("-3 ahead of -4", x.fill(0, true, 0, true), -3);
        DUE.is("-3 ahead of -6", x.fill(0, true, MAX, true), -3);
        DUE.is("-3 ahead of -7", x.fill(0, true, 5000, true), -3);
        int[] due = {2, 0, 5, 0, 0, 3, 1};
        for (int k = 0; k < 7; k++) {
            DUE.is("count(" + (11 + k) + ")", x.count(11 + k), due[k]);
        }
        // A LOT more than 30 goes ahead of a PUSH above MOST.
        SaltRooms y = three();
        for (int i = 0; i < 30; i++) {
            y.owner(i % 2);
            y.fill(0, false, 1, true);
        }
        y.fill(0, true, 1914, true);
        DUE.is("1 OIL would be a PUSH of 11", y.fill(0, false, 1, true), -7);
        y.owner(2);
        DUE.is("and a LOT more than 30", y.fill(0, false, 1, true), -6);
    }

    /** "the OWNER (0 .. 5; told, 0 at first)". */
    private static void ownersFrom0To5() {
        SaltRooms x = three();
        for (int owner : new int[] {-1, 6, MIN, MAX}) {
            DUE.is("owner(" + owner + ")", x.owner(owner), -1);
            DUE.is("has(" + owner + ", 0)", x.has(owner, 0, false), -1);
            DUE.is("has(" + owner + ", -1)", x.has(owner, -1, false), -1);
            DUE.is("has(" + owner + ", drawn)", x.has(owner, 0, true), -1);
            DUE.is("has(" + owner + ", no CAVERN)", x.has(owner, 7, false), -1);
        }
        DUE.is("count(11)", x.count(11), 20);
        for (int owner = 0; owner < 6; owner++) {
            DUE.is("owner(" + owner + ")", x.owner(owner), Math.max(0, owner - 1));
            x.fill(0, false, owner + 1, true);
        }
        for (int owner = 0; owner < 6; owner++) {
            DUE.is("has(" + owner + ")", x.has(owner, 0, false), owner + 1);
        }
    }

    /** "30 LOTS at most are in a CAVERN": each CAVERN has its own 30; what is drawn makes room when a LOT is gone. */
    private static void lotsTo30() {
        SaltRooms x = three();
        x.cavern(500, 10, 12);
        x.step(1, 99);
        for (int c = 0; c < 2; c++) {
            for (int i = 0; i < 30; i++) {
                x.owner((i + 5 * c) % 6);
                DUE.is("LOT " + i, x.fill(c, false, 3, true), 3 * i + 3);
            }
            int last = (29 + 5 * c) % 6;
            for (int owner = 0; owner < 6; owner++) {
                if (owner != last) {
                    x.owner(owner);
                    DUE.is("LOT 30 of " + owner, x.fill(c, false, 1, true), -6);
                }
            }
            x.owner(last);
            DUE.is("put to the last LOT", x.fill(c, false, 1, true), 91);
            DUE.is("a part of the first is drawn", x.fill(c, false, 2, false), 89);
            x.owner((last + 1) % 6);
            DUE.is("30 still", x.fill(c, false, 1, true), -6);
            DUE.is("all of the first is drawn", x.fill(c, false, 1, false), 88);
            DUE.is("29 and one", x.fill(c, false, 1, true), 89);
            x.owner((last + 2) % 6);
            DUE.is("30 again", x.fill(c, false, 1, true), -6);
        }
        DUE.is("count(16)", x.count(16), 14);
    }

    /** "what is drawn is taken from the LOTS of the CAVERN, the one that came first ahead": to its last, past it. */
    private static void firstLotsAhead() {
        SaltRooms x = three();
        int[] owners = {3, 1, 3, 0};
        int[] lots = {5, 1, 9, 4};
        for (int i = 0; i < 4; i++) {
            x.owner(owners[i]);
            x.fill(0, false, lots[i], true);
        }
        int[] drawn = new int[6];
        int[] there = {4, 1, 0, 14, 0, 0};
        x.owner(5);
        for (int at = 0; at < 4; at++) {
            for (int i = 0; i < lots[at]; i++) {
                x.fill(0, false, 1, false);
                drawn[owners[at]]++;
                there[owners[at]]--;
                for (int owner = 0; owner < 6; owner++) {
                    DUE.is("drawn of " + owner, x.has(owner, 0, true), drawn[owner]);
                    DUE.is("there of " + owner, x.has(owner, 0, false), there[owner]);
                }
            }
        }
        DUE.is("nothing is left", x.of(0, 6), 0);
        for (int i = 0; i < 4; i++) {
            x.owner(owners[i]);
            x.fill(0, false, lots[i], true);
        }
        DUE.is("all of three at once, and one", x.fill(0, false, 16, false), 3);
        DUE.is("one of the last", x.has(0, 0, true), 5);
        DUE.is("three are left", x.has(0, 0, false), 3);
        // Of the last LOT's OWNER again: one LOT, until another one comes between.
        SaltRooms y = three();
        for (int i = 0; i < 60; i++) {
            DUE.is("one LOT", y.fill(0, false, 1, true), i + 1);
        }
        DUE.is("all drawn", y.fill(0, false, 60, false), 0);
        DUE.is("and again", y.fill(0, false, 1, true), 1);
    }

    /** "OIL of an OWNER in a CAVERN (-1: in all); that was drawn in all (drawn true: CAVERN counts nothing)". */
    private static void hasOfAll() {
        SaltRooms x = new SaltRooms();
        DUE.is("no CAVERN", x.has(0, 0, false), -1);
        DUE.is("in all of none", x.has(0, -1, false), 0);
        DUE.is("drawn of none", x.has(0, 0, true), 0);
        for (int c = 0; c < 5; c++) {
            x.cavern(200 * c, 10, 12);
            x.fill(c, false, 1 + c % 2, true);
        }
        DUE.is("in all of five", x.has(0, -1, false), 7);
        DUE.is("in the last", x.has(0, 4, false), 1);
        for (int cavern : new int[] {5, -2, MIN, MAX}) {
            DUE.is("has(0, " + cavern + ")", x.has(0, cavern, false), -1);
            DUE.is("drawn, CAVERN " + cavern, x.has(0, cavern, true), 0);
        }
        x.fill(1, false, 2, false);
        x.fill(3, false, 1, false);
        DUE.is("drawn from two", x.has(0, MAX, true), 3);
        x.close(0);
        x.giveUp(2);
        DUE.is("shut and given up ones too", x.has(0, -1, false), 4);
        DUE.is("count(11)", x.count(11), 5);
    }

    /** "SPREAD 0 .. 999; told, 100 at first". */
    private static void spreadFrom0To999() {
        SaltRooms x = new SaltRooms();
        DUE.is("-1", x.spread(-1), -4);
        DUE.is("least", x.spread(MIN), -4);
        DUE.is("1000", x.spread(1000), -6);
        DUE.is("greatest", x.spread(MAX), -6);
        DUE.is("0", x.spread(0), 100);
        DUE.is("999", x.spread(999), 0);
        DUE.is("100", x.spread(100), 999);
        DUE.is("count(14)", x.count(14), 2);
        DUE.is("count(16)", x.count(16), 2);
    }

    /** At PLACES 0 and 999 a CAVERN has LOST 9800: (SPREAD less how far) times it by 1000, 0 at least, cut. */
    private static void marksFrom0To999() {
        SaltRooms x = new SaltRooms();
        for (int k = 0; k < 10; k++) {
            x.law(k, 99);
        }
        x.cavern(0, 0, 29);
        x.cavern(999, 0, 29);
        for (int i = 0; i < 10; i++) {
            x.step(0, 99);
            x.step(1, 99);
        }
        int[] before = {x.of(0, 4), x.of(1, 4)};
        rates(x, 99, 99);
        x.years(1);
        x.giveUp(1);
        x.years(2);
        for (int spread : new int[] {100, 0, 1, 999, 500}) {
            x.spread(spread);
            for (int mark = 0; mark <= 999; mark++) {
                int due = 0;
                for (int c = 0; c < 2; c++) {
                    int lost = before[c] - x.of(c, 4);
                    due += lost * Math.max(0, spread - Math.abs(mark - 999 * c)) / 1000;
                }
                DUE.is("SPREAD " + spread + ", MARK " + mark, x.sinks(mark), due);
            }
        }
        for (int mark : new int[] {-2, 1000, MIN, MAX}) {
            DUE.is("sinks(" + mark + ")", x.sinks(mark), -1);
        }
        DUE.is("count(11)", x.count(11), 4);
        DUE.is("WORST", x.sinks(-1), 0);
        DUE.is("none of them LOST as it was washed", before[0], 30 + 10 * (29 * 98 + 49));
    }

    /** "WORST: the MARK that SINKS most, of several the least": at both ends of the MARKS, and where nothing SINKS. */
    private static void worstOfSeveral() {
        DUE.is("no CAVERN", new SaltRooms().sinks(-1), 0);
        DUE.is("no YEAR", three().sinks(-1), 0);
        int[] places = {0, 999, 500};
        for (int place : places) {
            SaltRooms x = Build.strong();
            Build.cavern(x, place, 20, 3000, 3000);
            rates(x, 99, 99);
            x.years(1);
            x.spread(999);
            DUE.is("just its PLACE", x.sinks(-1), place);
            x.spread(0);
            DUE.is("none with SPREAD 0", x.sinks(-1), 0);
            x.spread(1);
            DUE.is("its PLACE with SPREAD 1", x.sinks(-1), x.sinks(place) > 0 ? place : 0);
        }
        SaltRooms y = Build.strong();
        Build.cavern(y, 700, 20, 1000, 1000);
        Build.cavern(y, 200, 20, 1000, 1000);
        rates(y, 99, 99);
        y.years(1);
        DUE.is("as much at both", y.sinks(200), y.sinks(700));
        DUE.is("the least of both", y.sinks(-1) <= 200 ? 1 : 0, 1);
    }

    /** "-3 it is shut or given up". */
    private static void closedForGood() {
        SaltRooms x = new Scenes(Scenes.STATES).make();
        int[] due = {1, 1, 1, -3, -3};
        for (int c = 0; c < 5; c++) {
            DUE.is("close(" + c + ")", x.close(c), due[c]);
            DUE.is("close(" + c + ") again", x.close(c), -3);
            DUE.is("STATE", x.of(c, 0), c == 4 ? 4 : 3);
        }
        for (int c : new int[] {5, -1, MIN, MAX}) {
            DUE.is("close(" + c + ")", x.close(c), -1);
        }
        DUE.is("count(11)", x.count(11), 4);
        DUE.is("count(13)", x.count(13), 7);
        SaltRooms y = new SaltRooms();
        DUE.is("none", y.close(0), -1);
        y.cavern(5, 3, 3);
        DUE.is("a planned one", y.close(0), 1);
    }

    private static void givenUpOnce() {
        SaltRooms x = new Scenes(Scenes.STATES).make();
        int[] due = {1, 1, 1, 1, -3};
        for (int c = 0; c < 5; c++) {
            DUE.is("giveUp(" + c + ")", x.giveUp(c), due[c]);
            DUE.is("giveUp(" + c + ") again", x.giveUp(c), -3);
            DUE.is("close(" + c + ")", x.close(c), -3);
            DUE.is("STATE", x.of(c, 0), 4);
        }
        for (int c : new int[] {5, -1, MIN, MAX}) {
            DUE.is("giveUp(" + c + ")", x.giveUp(c), -1);
        }
        SaltRooms y = new SaltRooms();
        DUE.is("none", y.giveUp(0), -1);
        y.cavern(5, 3, 3);
        DUE.is("a planned one", y.giveUp(0), 1);
    }

    /** "the first YEAR, of the next 60 (the YEAR that is now, and 1, is the first)": each of them, from YEARS 0 .. 60. */
    private static void breachOfTheNext60() {
        int[] size = new int[62];
        size[0] = 1200;
        for (int i = 1; i < size.length; i++) {
            size[i] = size[i - 1] - size[i - 1] * 12 * 9 / 10000;
        }
        for (int first = 1; first <= 61; first++) {
            if (size[first] == size[first - 1]) {
                continue;
            }
            SaltRooms x = Build.strong();
            Build.cavern(x, 5, 0, 1200);
            int gas = 2 * size[first];
            DUE.is("GAS", x.fill(0, true, gas, true), gas);
            x.close(0);
            rates(x, 0, 12);
            int due = first <= 60 ? first : -9;
            DUE.is("may", x.breach(0, false), due);
            DUE.is("must, by 0", x.breach(0, true), -9);
            rates(x, 12, 99);
            DUE.is("must", x.breach(0, true), due);
            // YEARS go by without CREEP: as many YEARS later.
            rates(x, 0, 12);
            x.years(20);
            DUE.is("may, from YEAR 20", x.breach(0, false), due == -9 ? -9 : 20 + first);
            x.years(20);
            x.years(20);
            DUE.is("may, from YEAR 60", x.breach(0, false), due == -9 ? -9 : 60 + first);
        }
        SaltRooms y = new SaltRooms();
        DUE.is("no CAVERN", y.breach(0, true), -1);
        y.cavern(5, 3, 3);
        DUE.is("a planned one", y.breach(0, true), -3);
        y.close(0);
        DUE.is("nothing in it", y.breach(0, true), -9);
        DUE.is("-9 is not counted", y.count(11) + y.count(13), 2);
        y.giveUp(0);
        DUE.is("a given up one", y.breach(0, false), -3);
    }
}

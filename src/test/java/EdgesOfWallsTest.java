/** The edges that the document names under IV: walls, PILLARS, SHELVES and their FALL, echoes, READINGS. */
public final class EdgesOfWallsTest {
    private static final Due DUE = new Due("EdgesOfWallsTest");
    private static final int MIN = Integer.MIN_VALUE;
    private static final int MAX = Integer.MAX_VALUE;
    private static final int FAR_NOBODY = -1000000001;
    private static final int FAR_OTHER = -1000000002;
    private static final int ALL = (1 << 30) - 1;

    public static void main(String[] args) {
        wallsOfLevelsThatBothHave();
        wallsBelow0();
        pillarsFrom0To999();
        pillarsOfEachWall();
        nearTheHighestOfSeveral();
        nearTheLeastOther();
        nearOfNone();
        shelfByMoreThanOver();
        overFrom1To99();
        shelfBesideFullRings();
        roofIfTheOneBelowFell();
        fallToTheSquare();
        fallOntoTheFloor();
        cutIfItIsBelow();
        fallOfEachState();
        mendWhatIsCut();
        toolsOfThirtyLevels();
        seenOnTheLine();
        seenPastTheRoof();
        fullOnesAreNotSeen();
        readingsTo40();
        readingsOfNumbers();
        boundsAtTheirEnds();
        boundsWithoutReadings();
        quarrelAbove();
        quarrelOfTheFirst();
        nextEchoOfMoreThanW();
        nextEchoTheLeast();
        nextEchoRefused();
        DUE.end();
    }

    /** "of two CAVERNS at a LEVEL that both have": 5 .. 8 and 8 .. 11 share one. */
    private static void wallsOfLevelsThatBothHave() {
        SaltRooms x = new SaltRooms();
        x.cavern(10, 5, 8);
        x.cavern(30, 8, 11);
        x.cavern(50, 9, 29);
        int refused = 0;
        for (int level : new int[] {MIN, -1, 0, 4, 5, 7, 8, 9, 11, 12, 29, 30, MAX}) {
            DUE.is("wall(0, 1, " + level + ")", x.wall(0, 1, level), level == 8 ? 18 : FAR_NOBODY);
            DUE.is("wall(1, 0, " + level + ")", x.wall(1, 0, level), level == 8 ? 18 : FAR_NOBODY);
            DUE.is("wall(1, 2, " + level + ")", x.wall(1, 2, level), level >= 9 && level <= 11 ? 18 : FAR_NOBODY);
            DUE.is("one twice", x.wall(1, 1, level), FAR_NOBODY);
            refused += (level == 8 ? 1 : 3) + (level >= 9 && level <= 11 ? 0 : 1);
        }
        for (int c : new int[] {-1, 3, 4, 5, MIN, MAX}) {
            DUE.is("wall(0, " + c + ", 8)", x.wall(0, c, 8), FAR_NOBODY);
            DUE.is("wall(" + c + ", 0, 8)", x.wall(c, 0, 8), FAR_NOBODY);
            DUE.is("wall(" + c + ", " + c + ", 8)", x.wall(c, c, 8), FAR_NOBODY);
        }
        DUE.is("count(11)", x.count(11), refused + 18);
    }

    /** "(may be below 0 ..)": 0, 1 and 2 apart by REACHES of 1; what is below 0 is not counted. */
    private static void wallsBelow0() {
        for (int apart = 0; apart <= 4; apart++) {
            SaltRooms x = new SaltRooms();
            x.cavern(100, 5, 5);
            x.cavern(100 + apart, 5, 5);
            DUE.is("apart by " + apart, x.wall(0, 1, 5), apart - 2);
            DUE.is("apart by " + apart, x.wall(1, 0, 5), apart - 2);
            DUE.is("count(11)", x.count(11), 0);
        }
        SaltRooms y = Build.strong();
        y.set(2, 0);
        Build.reaching(y, 100, 5, 3, 20);
        y.cavern(120, 6, 6);
        DUE.is("of a RING that reaches past it", y.wall(0, 1, 6), -1);
        y.giveUp(1);
        DUE.is("of a given up one", y.wall(1, 0, 6), -1);
    }

    /** "PILLARS: the least wall that is told (0 .. 999; 10 at first)". */
    private static void pillarsFrom0To999() {
        SaltRooms x = Due.rooms("h30");
        x.cavern(0, 5, 6);
        x.cavern(999, 6, 7);
        DUE.is("10 at first", x.set(2, 997), 10);
        DUE.is("a wall of 997", x.step(0, 99), 0);
        DUE.is("998", x.set(2, 998), 997);
        DUE.is("a wall of 997", x.step(0, 99), -7);
        DUE.is("999", x.set(2, 999), 998);
        DUE.is("a wall of 997", x.step(1, 99), -7);
        DUE.is("1000", x.set(2, 1000), -6);
        DUE.is("-1", x.set(2, -1), -4);
        DUE.is("999 still", x.set(2, 999), 999);
        // None shares a LEVEL: there is no wall.
        SaltRooms y = Due.rooms("h30");
        y.set(2, 999);
        y.cavern(5, 5, 6);
        DUE.is("alone", y.step(0, 99), 0);
        y.cavern(5, 7, 8);
        DUE.is("no LEVEL of both", y.step(0, 99), 0);
        // 0: a wall may be 0, not -1.
        SaltRooms z = Due.rooms("h30");
        z.set(2, 0);
        z.cavern(5, 5, 6);
        z.cavern(7, 6, 7);
        DUE.is("a wall of 0", z.step(0, 99), 0);
        z.cavern(6, 5, 5);
        DUE.is("a wall of -1", z.step(0, 99), -7);
        DUE.is("of others", z.step(1, 99), 0);
    }

    /** "behind which some wall of its CAVERN would be below it": each LEVEL, and each neighbour. */
    private static void pillarsOfEachWall() {
        for (int level = 5; level <= 8; level++) {
            for (int c = 1; c <= 3; c++) {
                SaltRooms x = Build.strong();
                x.cavern(500, 5, 8);
                for (int i = 1; i <= 3; i++) {
                    x.cavern(i == c ? 512 : 500 + 100 * i, level, level);
                }
                x.string(0, level, level, 5);
                int n = level == 5 ? 5 : 3;
                DUE.is("SIZE 3", x.step(0, n), 2);
                DUE.is("a wall of 10", x.wall(0, c, level), 10);
                DUE.is("SIZE 4", x.step(0, level == 5 ? 3 : 2), -7);
                DUE.is("SIZE 3 still", x.ring(0, level, 0), 3);
                x.string(0, level == 8 ? 5 : level + 1, level == 8 ? 5 : level + 1, 5);
                DUE.is("another LEVEL", x.step(0, 99) > 0 ? 1 : 0, 1);
            }
        }
    }

    /** "NEAR: the LEVEL with the least (of several the highest), over all others." */
    private static void nearTheHighestOfSeveral() {
        SaltRooms x = new SaltRooms();
        x.cavern(100, 0, 29);
        x.cavern(150, 0, 29);
        DUE.is("of thirty", x.near(0, 0), 0);
        x.cavern(150, 29, 29);
        DUE.is("one more at 29", x.near(0, 0), 0);
        x.cavern(149, 29, 29);
        DUE.is("a less one at 29", x.near(0, 0), 29);
        DUE.is("its CAVERN", x.near(0, 1), 3);
        x.cavern(51, 28, 29);
        DUE.is("as much at 28", x.near(0, 0), 28);
        DUE.is("its CAVERN", x.near(0, 1), 4);
    }

    /** "the other CAVERN (1; of several the least)": at that LEVEL. */
    private static void nearTheLeastOther() {
        SaltRooms x = new SaltRooms();
        x.cavern(100, 10, 12);
        x.cavern(120, 12, 12);
        x.cavern(80, 11, 11);
        x.cavern(120, 11, 12);
        x.cavern(500, 10, 10);
        DUE.is("LEVEL", x.near(0, 0), 11);
        DUE.is("2 and 3 are as near", x.near(0, 1), 2);
        DUE.is("of the last", x.near(4, 1) * 100 + x.near(4, 0), 10);
        DUE.is("walls below 0 are less", x.near(1, 0) * 10 + x.near(1, 1), 123);
        x.giveUp(2);
        DUE.is("given up ones are near too", x.near(0, 1), 2);
    }

    private static void nearOfNone() {
        SaltRooms x = new SaltRooms();
        DUE.is("no CAVERN", x.near(0, 0), -1);
        x.cavern(100, 10, 12);
        DUE.is("alone", x.near(0, 0), -9);
        DUE.is("alone", x.near(0, 1), -9);
        x.cavern(100, 13, 29);
        x.cavern(100, 0, 9);
        for (int c = 0; c < 3; c++) {
            DUE.is("none shares one", x.near(c, 0) + x.near(c, 1), -18);
        }
        for (int what : new int[] {-1, 2, MIN, MAX}) {
            DUE.is("near(0, " + what + ")", x.near(0, what), -2);
            DUE.is("near(3, " + what + ")", x.near(3, what), -1);
        }
        DUE.is("count(11)", x.count(11), 5);
        DUE.is("count(12)", x.count(12), 4);
    }

    /** "whose REACH is less than that of the one next below it by more than OVER": for each OVER to 20. */
    private static void shelfByMoreThanOver() {
        SaltRooms x = Build.strong();
        Build.reaching(x, 100, 10, 7, 7, 3, 14);
        for (int over = 1; over <= 20; over++) {
            x.set(3, over);
            DUE.is("11 by OVER " + over, x.ring(0, 12, 3), over < 11 ? 1 : 0);
            DUE.is("above a less one", x.ring(0, 11, 3), 0);
            DUE.is("the ROOF above an equal one", x.ring(0, 10, 3), 0);
            DUE.is("the lowest", x.ring(0, 13, 3), 0);
        }
        for (int over = 99; over >= 11; over -= 8) {
            x.set(3, over);
            DUE.is("fall by OVER " + over, x.fall(0, 12), -3);
        }
        x.set(3, 10);
        DUE.is("fall by OVER 10", x.fall(0, 12), 16 - 9);
    }

    /** "OVER (1 .. 99; 5 at first)": 101 less 1 is 100, more than 99. */
    private static void overFrom1To99() {
        SaltRooms x = Build.strong();
        Build.reaching(x, 100, 10, 1, 1, 100);
        DUE.is("5 at first", x.set(3, 99), 5);
        DUE.is("99 is not more", x.ring(0, 11, 3), 0);
        DUE.is("fall", x.fall(0, 11), -3);
        DUE.is("98", x.set(3, 98), 99);
        DUE.is("it is", x.ring(0, 11, 3), 1);
        DUE.is("0", x.set(3, 0), -4);
        DUE.is("100", x.set(3, 100), -6);
        x.string(0, 12, 12, 10);
        x.step(0, 99);
        x.step(0, 99);
        x.step(0, 99);
        x.set(3, 99);
        DUE.is("REACH 101", x.ring(0, 12, 1), 101);
        DUE.is("100 is more than 99", x.ring(0, 11, 3), 1);
        DUE.is("to SIZE 4", x.fall(0, 11), 3);
        x.set(3, 1);
        DUE.is("the ROOF by just 1", x.ring(0, 10, 3), 0);
        DUE.is("not below 2", x.ring(0, 11, 1) * 10 + x.ring(0, 10, 1), 21);
        DUE.is("fall by OVER 1", x.fall(0, 11), 10000 - 4);
        DUE.is("SIZE", x.ring(0, 11, 0), 10000);
    }

    /** "neither of them FULL". */
    private static void shelfBesideFullRings() {
        // LEVELS 27 .. 29: 29 is dirty by 9, and FULL when 28 falls onto it.
        SaltRooms x = Due.rooms("s29d91");
        x.law(0, 99);
        x.set(3, 1);
        x.cavern(5, 26, 29);
        x.string(0, 27, 27, 26);
        x.step(0, 99);
        x.step(0, 99);
        x.string(0, 29, 29, 26);
        x.step(0, 90);
        DUE.is("SIZE 90, 80 fell", x.ring(0, 29, 0) * 100 + x.of(0, 3), 9080);
        DUE.is("28 by 29", x.ring(0, 28, 3), 1);
        DUE.is("27 by 28", x.ring(0, 27, 3), 0);
        DUE.is("fall: 64 less 1", x.fall(0, 28), 63);
        DUE.is("FULL, and 53 are left", x.ring(0, 29, 2) * 100 + x.of(0, 3), 153);
        DUE.is("a FULL one", x.ring(0, 29, 3), 0);
        DUE.is("one above a FULL one", x.ring(0, 28, 3), 0);
        DUE.is("REACHES 8 and 9", x.ring(0, 28, 1) * 10 + x.ring(0, 29, 1), 89);
        DUE.is("fall of a FULL one", x.fall(0, 29), -3);
        DUE.is("fall above a FULL one", x.fall(0, 28), -3);
        x.set(3, 99);
        DUE.is("count(13)", x.count(13), 2);
    }

    /** "the ROOF only if the one next below it FELL ahead (once at least)": not if another one did, not if it is below. */
    private static void roofIfTheOneBelowFell() {
        SaltRooms x = Build.strong();
        Build.reaching(x, 100, 4, 1, 10, 20, 30);
        DUE.is("nothing fell", x.ring(0, 4, 3), 0);
        DUE.is("fall(0, 4)", x.fall(0, 4), -3);
        DUE.is("6 falls", x.fall(0, 6), 625 - 400);
        DUE.is("another one fell", x.ring(0, 4, 3), 0);
        DUE.is("fall(0, 4)", x.fall(0, 4), -3);
        DUE.is("5 falls", x.fall(0, 5), 400 - 100);
        DUE.is("the one below fell", x.ring(0, 4, 3), 1);
        x.cavern(500, 4, 5);
        x.string(1, 5, 5, 5);
        for (int i = 0; i < 3; i++) {
            x.step(1, 99);
        }
        DUE.is("another CAVERN's did not", x.ring(1, 5, 1) > 10 ? x.ring(1, 4, 3) : 1, 0);
        DUE.is("fall(0, 4)", x.fall(0, 4), 225 - 1);
        DUE.is("given up", x.of(0, 0), 4);
        // A CAVERN of one RING, its ROOF, has none below it.
        SaltRooms y = Build.strong();
        y.cavern(5, 3, 3);
        y.cavern(900, 4, 4);
        DUE.is("one RING", y.ring(0, 3, 3), 0);
        DUE.is("fall", y.fall(0, 3), -3);
    }

    /** "its SIZE becomes the square of (REACH of the one below less OVER), if that is more". */
    private static void fallToTheSquare() {
        for (int over = 1; over <= 8; over++) {
            // SIZE 24 is REACH 4; below it SIZE 200 is REACH 14.
            SaltRooms x = Build.strong();
            Build.cavern(x, 5, 10, 2000, 24, 200);
            x.set(3, over);
            int square = (14 - over) * (14 - over);
            DUE.is("fall by OVER " + over, x.fall(0, 11), square - 24);
            DUE.is("SIZE", x.ring(0, 11, 0), square);
            DUE.is("the one below", x.ring(0, 12, 0), 200);
            DUE.is("the one above", x.ring(0, 10, 0), 2000);
            DUE.is("no SHELF then", x.ring(0, 11, 3), 0);
            DUE.is("what fell", x.of(0, 2), square - 24);
        }
        SaltRooms y = Build.strong();
        Build.cavern(y, 5, 10, 2000, 24, 200);
        y.set(3, 9);
        DUE.is("5 is more than 4: 25", y.fall(0, 11), 1);
        y.set(3, 10);
        DUE.is("10 by OVER 10", y.fall(0, 11), -3);
    }

    /** "what came loose by that falls to THE FLOOR": just SIZE of the lowest fills it, one less does not. */
    private static void fallOntoTheFloor() {
        for (int size = 99; size <= 101; size++) {
            SaltRooms x = Build.strong();
            // 11 falls from 25 to 125 .. by 100: below it is REACH 12, OVER 1; 121 less 21.
            Build.cavern(x, 5, 10, 2000, 21, 150, size);
            x.set(3, 1);
            x.string(0, 13, 10, 10);
            DUE.is("100 come loose", x.fall(0, 11), 100);
            DUE.is("SIZE " + size + " is FULL", x.ring(0, 13, 2), size <= 100 ? 1 : 0);
            DUE.is("THE FLOOR", x.of(0, 3), size <= 100 ? 100 - size : 100);
            DUE.is("WATER", x.of(0, 12), size <= 100 ? 12 : 13);
            DUE.is("BRINE", x.of(0, 13), 10);
            DUE.is("CUT", x.of(0, 11), 1);
            DUE.is("ROOM is as it was", x.of(0, 4), 2000 + 21 + 150 + size);
        }
    }

    /** "if the STRING's WATER or BRINE is below it (as it was), the STRING is CUT": at it, and above it, is not below. */
    private static void cutIfItIsBelow() {
        for (int water = 10; water <= 13; water++) {
            for (int brine = 10; brine <= 13; brine++) {
                for (int oil = 10; oil <= 13; oil++) {
                    SaltRooms x = Build.strong();
                    Build.cavern(x, 5, 10, 100, 21, 150, 50);
                    x.set(3, 1);
                    x.string(0, water, brine, oil);
                    // 13 becomes FULL by it: what was at 13 is at 12 then.
                    DUE.is("fall", x.fall(0, 11), 100);
                    String name = water + ", " + brine + ", " + oil;
                    DUE.is(name + ": CUT", x.of(0, 11), water > 11 || brine > 11 ? 1 : 0);
                    DUE.is(name + ": lifted", x.of(0, 12) * 10000 + x.of(0, 13) * 100 + x.of(0, 14),
                            Math.min(water, 12) * 10000 + Math.min(brine, 12) * 100 + Math.min(oil, 12));
                }
            }
        }
    }

    /** "-3 no SHELF, given up": planned, washed, kept and shut ones fall. */
    private static void fallOfEachState() {
        for (int state = 1; state <= 4; state++) {
            SaltRooms x = Build.strong();
            Build.reaching(x, 5, 10, 10, 3, 12);
            if (state == 2) {
                x.fill(0, false, 50, true);
            } else if (state == 3) {
                x.close(0);
            } else if (state == 4) {
                x.giveUp(0);
            }
            DUE.is("a SHELF in STATE " + state, x.ring(0, 11, 3), 1);
            DUE.is("fall in STATE " + state, x.fall(0, 11), state == 4 ? -3 : 49 - 9);
            DUE.is("STATE", x.of(0, 0), state);
            DUE.is("no SHELF", x.fall(0, 12), -3);
            DUE.is("no RING", x.fall(0, 13), -1);
            DUE.is("no RING", x.fall(0, 9), -1);
            DUE.is("no CAVERN", x.fall(1, 11), -1);
        }
    }

    /** "-3 it is not CUT": mended once; CUT in each STATE. */
    private static void mendWhatIsCut() {
        SaltRooms x = new Scenes(Scenes.STATES).make();
        int[] due = {-3, 1, -3, -3, -3, -1};
        for (int c = 0; c < 6; c++) {
            DUE.is("mend(" + c + ")", x.mend(c), due[c]);
            DUE.is("mend(" + c + ") again", x.mend(c), c == 5 ? -1 : -3);
        }
        for (int c : new int[] {-1, MIN, MAX}) {
            DUE.is("mend(" + c + ")", x.mend(c), -1);
        }
        for (int way = 0; way < 3; way++) {
            SaltRooms y = new Scenes(Scenes.STATES).make();
            int state = way == 0 ? y.close(1) + 2 : way == 1 ? y.giveUp(1) + 3 : y.fill(1, false, 1, true) + 1;
            DUE.is("STATE of a CUT one", y.of(1, 0), state);
            DUE.is("CUT", y.of(1, 11), 1);
            DUE.is("mended", y.mend(1), 1);
            DUE.is("STATE", y.of(1, 0), state);
        }
    }

    /** "tools (bits 0 .. 29; those not of it count nothing)". */
    private static void toolsOfThirtyLevels() {
        SaltRooms x = new SaltRooms();
        DUE.is("no CAVERN", x.hidden(0, ALL), -1);
        x.cavern(5, 0, 29);
        x.cavern(500, 10, 12);
        DUE.is("none", x.hidden(0, 0), ALL);
        for (int level = 0; level < 30; level++) {
            DUE.is("REACHES of 1 hide none", x.hidden(0, 1 << level), 0);
            DUE.is("those not of it", x.hidden(1, 1 << level), level >= 10 && level <= 12 ? 0 : 7 << 10);
        }
        DUE.is("bit 30", x.hidden(0, 1 << 30), ALL);
        DUE.is("bit 31", x.hidden(0, 1 << 31), ALL);
        DUE.is("both", x.hidden(0, 3 << 30), ALL);
        DUE.is("all bits", x.hidden(0, -1), 0);
        DUE.is("greatest", x.hidden(0, MAX), 0);
        DUE.is("beside it", x.hidden(1, 1 << 9 | 1 << 13 | 3 << 30), 7 << 10);
        for (int c : new int[] {2, -1, MIN, MAX}) {
            DUE.is("hidden(" + c + ", 0)", x.hidden(c, 0), -1);
        }
    }

    /** "is not below": on the line itself it is seen, one below it is not; up and down. */
    private static void seenOnTheLine() {
        for (int between = 3; between <= 5; between++) {
            // Two LEVELS off REACH 8 asks for 4 beside the tool; four LEVELS off for 2, 4, 6.
            SaltRooms x = Build.strong();
            Build.reaching(x, 5, 10, 8, between, 1, between, 8);
            boolean seen = between >= 4;
            DUE.is("up, past " + between, x.hidden(0, 1 << 12) >> 10 & 1, seen ? 0 : 1);
            DUE.is("down, past " + between, x.hidden(0, 1 << 12) >> 14 & 1, seen ? 0 : 1);
            SaltRooms y = Build.strong();
            Build.reaching(y, 5, 10, 1, 2, between, 6, 8);
            DUE.is("by the third of four", y.hidden(0, 1 << 10) >> 14 & 1, seen ? 0 : 1);
            SaltRooms z = Build.strong();
            Build.reaching(z, 5, 10, 8, between + 2, 4, 2, 1);
            DUE.is("by the third of four, up", z.hidden(0, 1 << 14) >> 10 & 1, seen ? 0 : 1);
        }
        SaltRooms v = Build.strong();
        Build.reaching(v, 5, 10, 1, 20, 1, 20);
        DUE.is("what is beside it is seen, it too", v.hidden(0, 1 << 11), 1 << 13);
        DUE.is("the tool's own REACH counts nothing", v.hidden(0, 1 << 12), 0);
    }

    /** LEVEL 0 is one like others. */
    private static void seenPastTheRoof() {
        SaltRooms x = Build.strong();
        Build.reaching(x, 5, 0, 8, 1, 3, 20);
        DUE.is("0 past 1", x.hidden(0, 1 << 2), 1);
        DUE.is("0 past 1 and 2", x.hidden(0, 1 << 3), 1);
        DUE.is("from 0", x.hidden(0, 1), 1 << 2 | 1 << 3);
        DUE.is("next echo", x.nextEcho(0, 0), 1);
        SaltRooms y = Build.strong();
        Build.reaching(y, 5, 26, 20, 3, 1, 8);
        DUE.is("29 past 28", y.hidden(0, 1 << 27), 1 << 29);
        DUE.is("from 29", y.hidden(0, 1 << 29), 1 << 26 | 1 << 27);
    }

    /** "A FULL one is not seen, and from a FULL one nothing is; from a RING that one itself is." */
    private static void fullOnesAreNotSeen() {
        SaltRooms x = new Scenes(Scenes.STATES).make();
        DUE.is("all tools", x.hidden(0, -1), 3 << 12);
        DUE.is("FULL ones' tools", x.hidden(0, 3 << 12), 15 << 10);
        DUE.is("12's", x.hidden(0, 1 << 12), 15 << 10);
        DUE.is("11's", x.hidden(0, 1 << 11), 3 << 12);
        DUE.is("none is FULL", x.hidden(2, 1 << 6), 0);
        SaltRooms y = new SaltRooms();
        y.cavern(5, 7, 7);
        DUE.is("that one itself", y.hidden(0, 1 << 7), 0);
        DUE.is("next echo", y.nextEcho(0, 0), 7);
    }

    /** "READINGS (40 at most)": of all CAVERNS together; their numbers. */
    private static void readingsTo40() {
        SaltRooms x = new SaltRooms();
        for (int c = 0; c < 5; c++) {
            x.cavern(200 * c, 3, 5);
        }
        DUE.is("none", x.count(7), 0);
        for (int i = 0; i < 40; i++) {
            DUE.is("READING " + i, x.reading(i % 5, 3 + i / 20, 10 + i, 0), i);
            DUE.is("count(7)", x.count(7), i + 1);
        }
        for (int c = 0; c < 5; c++) {
            DUE.is("one more", x.reading(c, 3, 5, 5), -6);
            DUE.is("-4 goes ahead", x.reading(c, 3, -1, 5), -4);
            DUE.is("-1 goes ahead", x.reading(c, 6, -1, 5), -1);
            DUE.is("lower", x.bounds(c, 3, 0), 25 + c);
            DUE.is("upper", x.bounds(c, 3, 1), 10 + c);
            DUE.is("lower", x.bounds(c, 4, 0), 45 + c);
            DUE.is("upper", x.bounds(c, 4, 1), 30 + c);
            DUE.is("QUARREL", x.quarrel(c), 5 + c);
        }
        DUE.is("count(7)", x.count(7), 40);
        DUE.is("count(16)", x.count(16), 5);
        DUE.is("count(14)", x.count(14), 5);
        DUE.is("count(11)", x.count(11), 5);
    }

    /** "REACH of a RING (0 .. 999) with a DOUBT (0 .. 99), as told (whatever it is)". */
    private static void readingsOfNumbers() {
        SaltRooms x = new Scenes(Scenes.STATES).make();
        int[] wrong = {-1, MIN};
        int[] above = {1000, MAX};
        for (int i = 0; i < 2; i++) {
            DUE.is("REACH " + wrong[i], x.reading(0, 10, wrong[i], 0), -4);
            DUE.is("DOUBT " + wrong[i], x.reading(0, 10, 0, wrong[i]), -4);
            DUE.is("REACH " + above[i], x.reading(0, 10, above[i], 0), -6);
            DUE.is("DOUBT 100", x.reading(0, 10, 0, i == 0 ? 100 : MAX), -6);
            DUE.is("REACH above, DOUBT below", x.reading(0, 10, above[i], wrong[i]), -4);
            DUE.is("DOUBT above, REACH below", x.reading(0, 10, wrong[i], above[i]), -4);
        }
        DUE.is("count(7)", x.count(7), 39);
        DUE.is("of a FULL one, whatever it is", x.reading(0, 13, 999, 99), 39);
        SaltRooms y = new Scenes(Scenes.STATES).make();
        DUE.is("of a given up one", y.reading(4, 3, 0, 0), 39);
        DUE.is("lower", y.bounds(4, 3, 0), 0);
        DUE.is("upper", y.bounds(4, 3, 1), 0);
    }

    /** "the greatest of READINGS less DOUBT, the least of READINGS and DOUBT": from -99 to 1098. */
    private static void boundsAtTheirEnds() {
        SaltRooms x = new SaltRooms();
        x.cavern(5, 3, 5);
        x.reading(0, 3, 0, 99);
        DUE.is("the least lower", x.bounds(0, 3, 0), -99);
        DUE.is("upper", x.bounds(0, 3, 1), 99);
        x.reading(0, 4, 999, 99);
        DUE.is("lower", x.bounds(0, 4, 0), 900);
        DUE.is("the greatest upper", x.bounds(0, 4, 1), 1098);
        x.reading(0, 5, 0, 1);
        DUE.is("-1 is no REFUSAL", x.bounds(0, 5, 0), -1);
        x.reading(0, 3, 999, 0);
        DUE.is("lower", x.bounds(0, 3, 0), 999);
        DUE.is("upper", x.bounds(0, 3, 1), 99);
        DUE.is("nothing is counted", x.count(11) + x.count(12), 0);
    }

    /** "without READINGS -9 .. -1; -2." */
    private static void boundsWithoutReadings() {
        SaltRooms x = new SaltRooms();
        DUE.is("no CAVERN", x.bounds(0, 3, 0), FAR_NOBODY);
        x.cavern(5, 3, 5);
        for (int level = 3; level <= 5; level++) {
            DUE.is("lower", x.bounds(0, level, 0), -9);
            DUE.is("upper", x.bounds(0, level, 1), -9);
        }
        for (int what : new int[] {-1, 2, MIN, MAX}) {
            DUE.is("bounds(0, 3, " + what + ")", x.bounds(0, 3, what), FAR_OTHER);
            DUE.is("bounds(0, 2, " + what + ")", x.bounds(0, 2, what), FAR_NOBODY);
            DUE.is("bounds(1, 3, " + what + ")", x.bounds(1, 3, what), FAR_NOBODY);
        }
        DUE.is("count(11)", x.count(11), 9);
        DUE.is("count(12)", x.count(12), 4);
    }

    /** "behind which the lower BOUND of that RING is above the upper one": not if they are the same. */
    private static void quarrelAbove() {
        for (int reach = 0; reach <= 40; reach++) {
            SaltRooms x = new SaltRooms();
            x.cavern(5, 3, 5);
            x.reading(0, 3, 20, 5);
            x.reading(0, 3, reach, 4);
            DUE.is("20 by 5 and " + reach + " by 4", x.quarrel(0), Math.abs(reach - 20) > 9 ? 1 : -9);
        }
    }

    /** "the first READING of its RINGS": of any of its RINGS, of none of another's. */
    private static void quarrelOfTheFirst() {
        SaltRooms x = new SaltRooms();
        DUE.is("no CAVERN", x.quarrel(0), -1);
        x.cavern(5, 3, 5);
        x.cavern(500, 3, 5);
        DUE.is("no READING", x.quarrel(0), -9);
        x.reading(0, 3, 10, 0);
        DUE.is("one READING", x.quarrel(0), -9);
        x.reading(1, 3, 11, 0);
        x.reading(0, 4, 11, 0);
        DUE.is("of others", x.quarrel(0), -9);
        x.reading(0, 5, 10, 0);
        x.reading(0, 5, 11, 0);
        x.reading(0, 3, 11, 0);
        DUE.is("the first is 4", x.quarrel(0), 4);
        DUE.is("the other one's", x.quarrel(1), -9);
        x.reading(1, 3, 10, 0);
        DUE.is("the other one's", x.quarrel(1), 6);
        for (int c : new int[] {2, -1, MIN, MAX}) {
            DUE.is("quarrel(" + c + ")", x.quarrel(c), -1);
        }
        DUE.is("-9 is not counted", x.count(11), 5);
    }

    /** "that have no READING or BOUNDS more than w apart": by just w they are not. */
    private static void nextEchoOfMoreThanW() {
        for (int doubt = 0; doubt <= 99; doubt += 9) {
            SaltRooms x = new SaltRooms();
            x.cavern(5, 7, 7);
            DUE.is("no READING", x.nextEcho(0, 999), 7);
            x.reading(0, 7, 50, doubt);
            if (doubt > 0) {
                DUE.is("w one less", x.nextEcho(0, 2 * doubt - 1), 7);
            }
            DUE.is("w just that", x.nextEcho(0, 2 * doubt), -9);
            DUE.is("w 999", x.nextEcho(0, 999), -9);
            DUE.is("w 0", x.nextEcho(0, 0), doubt > 0 ? 7 : -9);
            x.reading(0, 7, 50, 0);
            DUE.is("BOUNDS that are one", x.nextEcho(0, 0), -9);
            DUE.is("-9 is not counted", x.count(11) + x.count(14) + x.count(16), 0);
        }
    }

    /** "the LEVEL of a tool from which the most RINGS are seen ..; of several the least". */
    private static void nextEchoTheLeast() {
        SaltRooms x = new SaltRooms();
        x.cavern(5, 0, 29);
        DUE.is("all see all", x.nextEcho(0, 5), 0);
        for (int level = 0; level < 29; level++) {
            x.reading(0, level, 1, 2);
        }
        DUE.is("the lowest alone is wanted", x.nextEcho(0, 4), 0);
        DUE.is("all are", x.nextEcho(0, 3), 0);
        x.reading(0, 29, 1, 2);
        DUE.is("none is", x.nextEcho(0, 4), -9);
        SaltRooms y = Build.strong();
        Build.reaching(y, 5, 20, 9, 1, 9, 1, 9);
        // From 20: 20, 21, 23; from 21: 20 .. 23 (24 is below 23's line); from 22: 21 .. 23; from 23: 21 .. 24.
        DUE.is("the most", y.nextEcho(0, 0), 21);
        y.reading(0, 20, 9, 0);
        y.reading(0, 21, 1, 0);
        DUE.is("of those that are wanted", y.nextEcho(0, 0), 23);
    }

    private static void nextEchoRefused() {
        SaltRooms x = new SaltRooms();
        DUE.is("no CAVERN", x.nextEcho(0, -1), -1);
        x.cavern(5, 3, 5);
        for (int w : new int[] {-1, MIN}) {
            DUE.is("nextEcho(0, " + w + ")", x.nextEcho(0, w), -4);
            DUE.is("nextEcho(1, " + w + ")", x.nextEcho(1, w), -1);
        }
        for (int w : new int[] {1000, MAX}) {
            DUE.is("nextEcho(0, " + w + ")", x.nextEcho(0, w), -6);
            DUE.is("nextEcho(-1, " + w + ")", x.nextEcho(-1, w), -1);
        }
        DUE.is("w 0", x.nextEcho(0, 0), 3);
        DUE.is("w 999", x.nextEcho(0, 999), 3);
        DUE.is("count(14)", x.count(14), 2);
        DUE.is("count(16)", x.count(16), 2);
    }
}

/** Promises 7 to 11: LAWS, STEPS, HALF, and what is told of RINGS and CAVERNS. */
public final class WashTest {
    private static final Due DUE = new Due("WashTest");

    public static void main(String[] args) {
        law();
        lawOfEachStrength();
        stepUpward();
        stepDownward();
        stepUnderOil();
        stepInHardAndDirty();
        stepThatTakesNothing();
        stepRefused();
        stepAndWalls();
        stepAtOnePlace();
        stepToTheGreatestSize();
        fullRings();
        roofIsNeverFull();
        half();
        halfRefused();
        ring();
        of();
        DUE.end();
    }

    private static void law() {
        SaltRooms x = new SaltRooms();
        DUE.is("law(-1, 5)", x.law(-1, 5), -1);
        DUE.is("law(10, 5)", x.law(10, 5), -1);
        DUE.is("law(10, 100)", x.law(10, 100), -1);
        DUE.is("law(3, -1)", x.law(3, -1), -4);
        DUE.is("law(3, 100)", x.law(3, 100), -6);
        DUE.is("law(3, 0)", x.law(3, 0), 60);
        DUE.is("law(3, 99)", x.law(3, 99), 0);
        DUE.is("law(3, 1)", x.law(3, 1), 99);
        DUE.is("law(9, 7)", x.law(9, 7), 0);
        DUE.is("law(9, 7)", x.law(9, 7), 7);
        DUE.is("count(11)", x.count(11), 3);
    }

    /** n = 99: OUT 44 makes STRENGTH 10, OUT 43 makes it 9. */
    private static void lawOfEachStrength() {
        SaltRooms x = new SaltRooms();
        x.cavern(5, 10, 12);
        x.string(0, 12, 11, 10);
        x.law(0, 45);
        DUE.is("step with STRENGTH 10", x.step(0, 99), 44 + 79);
        x.undo();
        x.law(0, 44);
        DUE.is("step with STRENGTH 9", x.step(0, 99), 43 + 43);
        x.undo();
        x.law(0, 99);
        // 98 of 98 and 396: 19; LAW of 10 .. 19 is 80.
        DUE.is("step with STRENGTH 19", x.step(0, 99), 98 + 79);
    }

    private static void stepUpward() {
        SaltRooms x = new SaltRooms();
        x.cavern(5, 10, 12);
        // 89; STRENGTH 18, 79; STRENGTH 29, half of 69.
        DUE.is("step(0, 99)", x.step(0, 99), 202);
        DUE.is("ring(0, 12, 0)", x.ring(0, 12, 0), 90);
        DUE.is("ring(0, 11, 0)", x.ring(0, 11, 0), 80);
        DUE.is("ring(0, 10, 0)", x.ring(0, 10, 0), 35);
        // STRENGTH is 0 at first again.
        DUE.is("step(0, 99) again", x.step(0, 99), 202);
        DUE.is("ring(0, 12, 0)", x.ring(0, 12, 0), 179);
        DUE.is("of(0, 1)", x.of(0, 1), 404);
        DUE.is("of(0, 0)", x.of(0, 0), 1);
    }

    private static void stepDownward() {
        SaltRooms x = new SaltRooms();
        x.cavern(5, 10, 12);
        x.string(0, 10, 12, 10);
        // Half of 89; STRENGTH 10, 79; OUT 123 makes STRENGTH 23, 69.
        DUE.is("step(0, 99)", x.step(0, 99), 192);
        DUE.is("ring(0, 10, 0)", x.ring(0, 10, 0), 45);
        DUE.is("ring(0, 11, 0)", x.ring(0, 11, 0), 80);
        DUE.is("ring(0, 12, 0)", x.ring(0, 12, 0), 70);
        x.string(0, 11, 11, 10);
        DUE.is("step(0, 10)", x.step(0, 10), 9);
        DUE.is("ring(0, 11, 0)", x.ring(0, 11, 0), 89);
        DUE.is("ring(0, 12, 0)", x.ring(0, 12, 0), 70);
    }

    private static void stepUnderOil() {
        SaltRooms x = new SaltRooms();
        x.cavern(5, 10, 12);
        x.string(0, 12, 10, 11);
        DUE.is("step(0, 99)", x.step(0, 99), 168);
        DUE.is("the roof is shielded", x.ring(0, 10, 0), 1);
        DUE.is("the oil's own level is not", x.ring(0, 11, 0), 80);
        x.string(0, 10, 12, 12);
        // The first ring that is not shielded meets STRENGTH 0.
        DUE.is("step(0, 99)", x.step(0, 99), 89);
        DUE.is("ring(0, 12, 0)", x.ring(0, 12, 0), 179);
    }

    private static void stepInHardAndDirty() {
        SaltRooms x = Due.rooms("d51h1d328");
        x.cavern(5, 0, 3);
        // Level 3: 45, 13 stay; level 2: 32 of 232 is 13, so 40, 12 stay; level 1: none;
        // 60 of 260 is 23, so half of 35, 8 stay.
        DUE.is("step(0, 50)", x.step(0, 50), 32 + 28 + 9);
        DUE.is("ring(0, 3, 0)", x.ring(0, 3, 0), 46);
        DUE.is("ring(0, 2, 0)", x.ring(0, 2, 0), 41);
        DUE.is("ring(0, 1, 0)", x.ring(0, 1, 0), 1);
        DUE.is("ring(0, 0, 0)", x.ring(0, 0, 0), 18);
        DUE.is("of(0, 2)", x.of(0, 2), 33);
        DUE.is("of(0, 3)", x.of(0, 3), 33);
        DUE.is("of(0, 4)", x.of(0, 4), 106 - 33);
    }

    private static void stepThatTakesNothing() {
        SaltRooms x = Due.rooms("h30");
        x.cavern(5, 4, 6);
        DUE.is("planned", x.of(0, 0), 0);
        DUE.is("step(0, 99)", x.step(0, 99), 0);
        DUE.is("washed", x.of(0, 0), 1);
        SaltRooms y = new SaltRooms();
        y.cavern(5, 4, 6);
        DUE.is("step(0, 1)", y.step(0, 1), 0);
        DUE.is("washed", y.of(0, 0), 1);
        DUE.is("count(4)", y.count(4), 1);
    }

    private static void stepRefused() {
        SaltRooms x = new SaltRooms();
        x.cavern(5, 4, 6);
        DUE.is("step(1, 0)", x.step(1, 0), -1);
        DUE.is("step(-1, 0)", x.step(-1, 0), -1);
        DUE.is("step(0, 0)", x.step(0, 0), -4);
        DUE.is("step(0, 100)", x.step(0, 100), -6);
        DUE.is("it is planned", x.of(0, 0), 0);
        x.fill(0, true, 1, true);
        DUE.is("kept: step(0, 0)", x.step(0, 0), -3);
        x.fill(0, true, 1, false);
        DUE.is("was kept: step(0, 5)", x.step(0, 5), -3);
        DUE.is("was kept: of(0, 0)", x.of(0, 0), 2);
        x.close(0);
        DUE.is("shut: step(0, 5)", x.step(0, 5), -3);
        x.giveUp(0);
        DUE.is("given up: step(0, 5)", x.step(0, 5), -3);
        DUE.is("count(13)", x.count(13), 4);
    }

    /** The walls are 20 less both REACHES; PILLARS 10 at first. */
    private static void stepAndWalls() {
        SaltRooms x = Build.strong();
        x.cavern(100, 4, 6);
        x.cavern(120, 6, 8);
        x.string(0, 6, 6, 4);
        // SIZE 99 has REACH 9, which leaves a wall of 10.
        DUE.is("step(0, 99)", x.step(0, 99), 98);
        DUE.is("wall(0, 1, 6)", x.wall(0, 1, 6), 10);
        DUE.is("step(0, 2)", x.step(0, 2), -7);
        DUE.is("nothing changed", x.ring(0, 6, 0), 99);
        DUE.is("nothing changed", x.count(4), 2);
        DUE.is("step(0, 1)", x.step(0, 1), 0);
        x.string(1, 8, 7, 6);
        DUE.is("no wall is there", x.step(1, 90), 89 + 72);
        x.set(2, 11);
        DUE.is("a wall that was too thin", x.step(1, 1), -7);
        DUE.is("count(17)", x.count(17), 2);
        x.giveUp(0);
        DUE.is("a given up one's too", x.step(1, 1), -7);
        x.set(2, 0);
        x.string(1, 6, 6, 6);
        // Half of 98 is 49: SIZE 50, 99, which leaves a wall of 2, then 148: REACH 12 would leave -1.
        DUE.is("step(1, 99)", x.step(1, 99), 49);
        DUE.is("step(1, 99)", x.step(1, 99), 49);
        DUE.is("step(1, 99)", x.step(1, 99), -7);
    }

    private static void stepAtOnePlace() {
        SaltRooms x = Due.rooms("h30");
        x.cavern(100, 4, 6);
        x.cavern(100, 6, 8);
        DUE.is("a wall of -2 that nothing makes thinner", x.step(0, 99), -7);
        x.set(2, 0);
        DUE.is("below 0 too", x.step(0, 99), -7);
        SaltRooms y = Due.rooms("h30");
        y.cavern(100, 4, 6);
        y.cavern(102, 6, 8);
        y.set(2, 0);
        DUE.is("a wall of 0", y.step(0, 99), 0);
    }

    /** It takes more than 512 calls; the document promises no answers behind them, but this class keeps its word. */
    private static void stepToTheGreatestSize() {
        SaltRooms x = Due.rooms("s10d520");
        x.law(0, 99);
        x.cavern(5, 8, 10);
        x.string(0, 9, 9, 9);
        for (int i = 0; i < 1020; i++) {
            x.step(0, 99);
        }
        DUE.is("SIZE", x.ring(0, 9, 0), 99961);
        DUE.is("no more than 99999", x.step(0, 99), 38);
        DUE.is("SIZE", x.ring(0, 9, 0), 99999);
        DUE.is("REACH", x.ring(0, 9, 1), 316);
        DUE.is("no more", x.step(0, 99), 0);
    }

    private static void fullRings() {
        SaltRooms x = Due.rooms("d930");
        x.cavern(5, 0, 3);
        x.string(0, 3, 1, 0);
        // Three times 45, of which 40 stay: 120 fill 46 and 46.
        DUE.is("step(0, 50)", x.step(0, 50), 15);
        DUE.is("ring(0, 3, 2)", x.ring(0, 3, 2), 1);
        DUE.is("ring(0, 2, 2)", x.ring(0, 2, 2), 1);
        DUE.is("ring(0, 1, 2)", x.ring(0, 1, 2), 0);
        DUE.is("ring(0, 3, 0)", x.ring(0, 3, 0), 46);
        DUE.is("of(0, 3)", x.of(0, 3), 28);
        DUE.is("of(0, 2)", x.of(0, 2), 120);
        DUE.is("of(0, 4)", x.of(0, 4), 46 + 1 - 28);
        DUE.is("of(0, 12)", x.of(0, 12), 1);
        DUE.is("of(0, 13)", x.of(0, 13), 1);
        DUE.is("of(0, 14)", x.of(0, 14), 0);
        x.undo();
        x.string(0, 3, 1, 3);
        DUE.is("step(0, 50)", x.step(0, 50), 5);
        DUE.is("not full below its SIZE", x.ring(0, 3, 2), 0);
        x.undo();
        x.string(0, 3, 2, 2);
        // 80 less 46: 34.
        DUE.is("step(0, 50)", x.step(0, 50), 10);
        DUE.is("the oil is lifted", x.of(0, 14), 2);
        x.string(0, 1, 1, 1);
        x.step(0, 50);
        DUE.is("a ring that is full of just its SIZE or more", x.of(0, 3), 74 - 46);
        DUE.is("ring 2 is full", x.ring(0, 2, 2), 1);
        DUE.is("water", x.of(0, 12), 1);
    }

    /** RINGS 46 and 1, 40 on THE FLOOR; by RATE 99: 41, then 37, which is full, and 3 lie in the ROOF of 1. */
    private static void roofIsNeverFull() {
        SaltRooms x = Due.rooms("d930");
        x.set(1, 99);
        x.set(0, 99);
        x.cavern(5, 0, 1);
        x.string(0, 1, 1, 1);
        x.step(0, 50);
        DUE.is("years(1)", x.years(1), 1);
        DUE.is("ring(0, 1, 0)", x.ring(0, 1, 0), 41);
        DUE.is("ring(0, 1, 2)", x.ring(0, 1, 2), 0);
        x.years(1);
        DUE.is("ring(0, 1, 0)", x.ring(0, 1, 0), 37);
        DUE.is("ring(0, 1, 2)", x.ring(0, 1, 2), 1);
        DUE.is("of(0, 3)", x.of(0, 3), 3);
        DUE.is("ring(0, 0, 2)", x.ring(0, 0, 2), 0);
        DUE.is("of(0, 4)", x.of(0, 4), -2);
        DUE.is("of(0, 12)", x.of(0, 12), 0);
        DUE.is("of(0, 13)", x.of(0, 13), 0);
        DUE.is("of(0, 14)", x.of(0, 14), 0);
        DUE.is("no room for oil", x.fill(0, false, 1, true), -6);
        x.years(5);
        DUE.is("a full one does not creep", x.ring(0, 1, 0), 37);
    }

    /** By LAW 45 and 0: 20 makes STRENGTH 10 from 9 OUT, 10 makes 9 from 4. */
    private static void half() {
        SaltRooms x = new SaltRooms();
        x.cavern(5, 10, 12);
        x.string(0, 12, 11, 10);
        x.law(0, 45);
        x.law(1, 0);
        DUE.is("half(0, 20)", x.half(0, 20), 7);
        DUE.is("nothing changed", x.ring(0, 12, 0), 1);
        DUE.is("nothing changed", x.of(0, 0), 0);
        DUE.is("nothing changed", x.count(4), 1);
        x.law(0, 90);
        DUE.is("half(0, 2)", x.half(0, 2), 1);
        x.law(1, 80);
        // 88 and 78; twice 44 and 39.
        DUE.is("half(0, 98)", x.half(0, 98), 0);
        SaltRooms y = new SaltRooms();
        y.cavern(100, 0, 0);
        y.cavern(101, 0, 0);
        DUE.is("walls count nothing", y.half(0, 98), 0);
    }

    private static void halfRefused() {
        SaltRooms x = new SaltRooms();
        x.cavern(5, 10, 12);
        DUE.is("half(1, 3)", x.half(1, 3), -1);
        DUE.is("half(0, 3)", x.half(0, 3), -3);
        DUE.is("half(0, 101)", x.half(0, 101), -3);
        DUE.is("half(0, -1)", x.half(0, -1), -3);
        DUE.is("half(0, 0)", x.half(0, 0), -4);
        DUE.is("half(0, -2)", x.half(0, -2), -4);
        DUE.is("half(0, 100)", x.half(0, 100), -6);
        x.close(0);
        DUE.is("half(0, 4) shut", x.half(0, 4), -3);
    }

    private static void ring() {
        SaltRooms x = Build.strong();
        Build.cavern(x, 5, 3, 8, 9, 15, 16, 99, 100);
        int[] sizes = {8, 9, 15, 16, 99, 100};
        int[] reaches = {2, 3, 3, 4, 9, 10};
        for (int i = 0; i < sizes.length; i++) {
            DUE.is("SIZE", x.ring(0, 3 + i, 0), sizes[i]);
            DUE.is("REACH", x.ring(0, 3 + i, 1), reaches[i]);
            DUE.is("FULL", x.ring(0, 3 + i, 2), 0);
            DUE.is("SHELF", x.ring(0, 3 + i, 3), 0);
        }
        x.set(3, 4);
        DUE.is("5 is more than 4", x.ring(0, 6, 3), 1);
        DUE.is("1 is not more than 4", x.ring(0, 7, 3), 0);
        DUE.is("ring(1, 3, 0)", x.ring(1, 3, 0), -1);
        DUE.is("ring(-1, 3, 9)", x.ring(-1, 3, 9), -1);
        DUE.is("ring(0, 2, 0)", x.ring(0, 2, 0), -1);
        DUE.is("ring(0, 9, 9)", x.ring(0, 9, 9), -1);
        DUE.is("ring(0, 3, 4)", x.ring(0, 3, 4), -2);
        DUE.is("ring(0, 3, -1)", x.ring(0, 3, -1), -2);
        DUE.is("count(12)", x.count(12), 2);
    }

    private static void of() {
        SaltRooms x = Build.strong();
        Build.cavern(x, 5, 11, 40, 60, 50);
        int[] empty = {1, 147, 0, 0, 150, 0, 0, 0, 2, 11, 300, 0, 13, 11, 11};
        for (int what = 0; what <= 14; what++) {
            DUE.is("of(0, " + what + ")", x.of(0, what), empty[what]);
        }
        x.string(0, 12, 13, 11);
        x.fill(0, false, 30, true);
        x.fill(0, true, 370, true);
        int[] kept = {2, 147, 0, 0, 150, 3, 30, 370, 2, 11, 240, 0, 12, 13, 11};
        for (int what = 0; what <= 14; what++) {
            DUE.is("kept of(0, " + what + ")", x.of(0, what), kept[what]);
        }
        DUE.is("of(1, 15)", x.of(1, 15), -1);
        DUE.is("of(-1, 0)", x.of(-1, 0), -1);
        DUE.is("of(0, 15)", x.of(0, 15), -2);
        DUE.is("of(0, -1)", x.of(0, -1), -2);
        int[] least = {0, 0, 0, 0, 0, 1, 1};
        for (int roof = 0; roof <= 3; roof++) {
            SaltRooms y = new SaltRooms();
            y.cavern(5, roof, roof);
            y.cavern(5, roof + 4, roof + 4);
            DUE.is("LEAST", y.of(0, 8), least[roof]);
            DUE.is("LEAST", y.of(1, 8), roof + 4 >= 5 ? 1 : 0);
            DUE.is("MOST", y.of(0, 9), roof == 0 ? 1 : roof);
            DUE.is("MOST", y.of(1, 9), roof + 4);
        }
        SaltRooms deep = new SaltRooms();
        deep.cavern(5, 29, 29);
        DUE.is("LEAST of 29", deep.of(0, 8), 5);
        DUE.is("MOST of 29", deep.of(0, 9), 29);
    }
}

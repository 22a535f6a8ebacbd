/** Promises 23 to 31: walls, SHELVES that FALL, what echoes see, READINGS and their BOUNDS. */
public final class WallsTest {
    private static final Due DUE = new Due("WallsTest");
    private static final int NOBODY = -1000000001;

    public static void main(String[] args) {
        wall();
        wallBelowNothing();
        near();
        nearOfSeveral();
        fall();
        fallOfTheRoof();
        fallOntoFullRings();
        fallThatCutsNothing();
        fallRefused();
        mend();
        hidden();
        hiddenByFullRings();
        reading();
        readingsAtMost();
        bounds();
        quarrel();
        nextEcho();
        nextEchoRefused();
        DUE.end();
    }

    private static void wall() {
        SaltRooms x = Build.strong();
        Build.reaching(x, 100, 4, 3, 5, 7);
        Build.reaching(x, 150, 5, 2, 9, 4);
        DUE.is("wall(0, 1, 5)", x.wall(0, 1, 5), 50 - 5 - 2);
        DUE.is("wall(1, 0, 5)", x.wall(1, 0, 5), 50 - 5 - 2);
        DUE.is("wall(0, 1, 6)", x.wall(0, 1, 6), 50 - 7 - 9);
        DUE.is("only 0 has level 4", x.wall(0, 1, 4), NOBODY);
        DUE.is("only 1 has level 7", x.wall(0, 1, 7), NOBODY);
        DUE.is("none has level 8", x.wall(0, 1, 8), NOBODY);
        DUE.is("no level", x.wall(0, 1, -1), NOBODY);
        DUE.is("no level", x.wall(0, 1, 30), NOBODY);
        DUE.is("one twice", x.wall(0, 0, 5), NOBODY);
        DUE.is("no cavern", x.wall(0, 2, 5), NOBODY);
        DUE.is("no cavern", x.wall(-1, 1, 5), NOBODY);
        DUE.is("count(11)", x.count(11), 8);
        x.giveUp(0);
        DUE.is("a given up one's", x.wall(0, 1, 5), 43);
    }

    private static void wallBelowNothing() {
        SaltRooms x = new SaltRooms();
        x.cavern(100, 4, 6);
        x.cavern(100, 4, 6);
        x.cavern(101, 5, 5);
        DUE.is("at one place", x.wall(0, 1, 4), -2);
        DUE.is("beside", x.wall(0, 2, 5), -1);
        DUE.is("nothing is counted", x.count(11), 0);
    }

    private static void near() {
        SaltRooms x = Build.strong();
        Build.reaching(x, 100, 4, 3, 5, 7);
        DUE.is("alone", x.near(0, 0), -9);
        DUE.is("alone", x.near(0, 1), -9);
        Build.reaching(x, 180, 5, 2, 9, 4);
        Build.reaching(x, 500, 0, 1, 1);
        DUE.is("near(0, 0)", x.near(0, 0), 6);
        DUE.is("near(0, 1)", x.near(0, 1), 1);
        DUE.is("near(1, 0)", x.near(1, 0), 6);
        DUE.is("near(1, 1)", x.near(1, 1), 0);
        DUE.is("near(2, 0)", x.near(2, 0), -9);
        DUE.is("near(2, 1)", x.near(2, 1), -9);
        DUE.is("near(3, 7)", x.near(3, 7), -1);
        DUE.is("near(-1, 0)", x.near(-1, 0), -1);
        DUE.is("near(0, 2)", x.near(0, 2), -2);
        DUE.is("near(0, -1)", x.near(0, -1), -2);
        DUE.is("-9 is not counted", x.count(11) + x.count(12), 4);
    }

    private static void nearOfSeveral() {
        SaltRooms x = new SaltRooms();
        x.cavern(100, 10, 14);
        x.cavern(150, 12, 20);
        x.cavern(50, 11, 20);
        x.cavern(150, 11, 20);
        DUE.is("the highest level", x.near(0, 0), 11);
        DUE.is("the least cavern there", x.near(0, 1), 2);
        x.cavern(149, 14, 14);
        DUE.is("the least wall", x.near(0, 0), 14);
        DUE.is("the least wall's", x.near(0, 1), 4);
        DUE.is("walls below 0", x.near(1, 0), 12);
        DUE.is("walls below 0", x.near(1, 1), 3);
    }

    /** REACHES 7, 1, 10, 20 from LEVEL 4 on; OVER is 5. */
    private static void fall() {
        SaltRooms x = Build.strong();
        Build.reaching(x, 100, 4, 7, 1, 10, 20);
        x.string(0, 7, 4, 4);
        DUE.is("no shelf: above a less one", x.ring(0, 4, 3), 0);
        DUE.is("a shelf", x.ring(0, 5, 3), 1);
        DUE.is("a shelf", x.ring(0, 6, 3), 1);
        DUE.is("the lowest is none", x.ring(0, 7, 3), 0);
        DUE.is("fall(0, 6)", x.fall(0, 6), 225 - 100);
        DUE.is("its SIZE", x.ring(0, 6, 0), 225);
        DUE.is("THE FLOOR", x.of(0, 3), 125);
        DUE.is("all that fell", x.of(0, 2), 125);
        DUE.is("count(6)", x.count(6), 125);
        DUE.is("what is OUT is as it was", x.of(0, 1), 546);
        DUE.is("ROOM is as it was", x.of(0, 4), 49 + 1 + 100 + 400);
        DUE.is("it is CUT", x.of(0, 11), 1);
        DUE.is("no shelf any more", x.ring(0, 6, 3), 0);
        DUE.is("fall(0, 6)", x.fall(0, 6), -3);
        // 15 less 5 is 10.
        DUE.is("fall(0, 5)", x.fall(0, 5), 99);
        DUE.is("its SIZE", x.ring(0, 5, 0), 100);
        DUE.is("washed still", x.of(0, 0), 1);
        DUE.is("a roof by less than OVER", x.ring(0, 4, 3), 0);
        x.set(3, 3);
        DUE.is("a roof by just OVER", x.ring(0, 4, 3), 0);
        x.set(3, 2);
        DUE.is("a roof by more", x.ring(0, 4, 3), 1);
        DUE.is("fall(0, 4)", x.fall(0, 4), 64 - 49);
        DUE.is("given up", x.of(0, 0), 4);
        DUE.is("of(0, 2)", x.of(0, 2), 125 + 99 + 15);
        x.set(3, 1);
        DUE.is("a shelf still", x.ring(0, 6, 3), 1);
        DUE.is("a given up one's", x.fall(0, 6), -3);
    }

    private static void fallOfTheRoof() {
        SaltRooms x = Build.strong();
        Build.reaching(x, 100, 4, 1, 9, 20);
        DUE.is("the one below has not fallen", x.ring(0, 4, 3), 0);
        DUE.is("fall(0, 4)", x.fall(0, 4), -3);
        DUE.is("fall(0, 5)", x.fall(0, 5), 225 - 81);
        DUE.is("it has", x.ring(0, 4, 3), 1);
        x.close(0);
        x.years(1);
        DUE.is("in a shut one", x.of(0, 0), 3);
        DUE.is("fall(0, 4)", x.fall(0, 4), 99);
        DUE.is("given up", x.of(0, 0), 4);
        // Another object's CAVERN of that number has not had its RING fall.
        SaltRooms y = Build.strong();
        Build.reaching(y, 100, 4, 1, 9);
        DUE.is("another's", y.ring(0, 4, 3), 0);
    }

    /** d9: 80 of the 88 that a lowest RING loses stay. */
    private static void fallOntoFullRings() {
        SaltRooms x = Due.rooms("s15h1d914");
        x.cavern(5, 13, 16);
        x.law(0, 99);
        x.set(2, 0);
        x.string(0, 14, 14, 14);
        x.step(0, 99);
        x.step(0, 99);
        // SIZES 1, 197, 1, 1: REACH 14 is above nothing more.
        DUE.is("no shelf below", x.ring(0, 15, 3), 0);
        x.string(0, 16, 16, 16);
        x.step(0, 90);
        // SIZE 90 with 80 on THE FLOOR, REACH 9 below REACH 1 of the hard one.
        DUE.is("of(0, 3)", x.of(0, 3), 80);
        DUE.is("a hard one may be a shelf", x.ring(0, 15, 3), 1);
        x.string(0, 16, 16, 16);
        DUE.is("fall(0, 15)", x.fall(0, 15), 15);
        DUE.is("full by that", x.ring(0, 16, 2), 1);
        DUE.is("95 less 90", x.of(0, 3), 5);
        DUE.is("CUT as it was", x.of(0, 11), 1);
        DUE.is("lifted", x.of(0, 12), 15);
        x.set(3, 1);
        x.string(0, 14, 14, 14);
        DUE.is("a ring above a full one", x.ring(0, 15, 3), 0);
        DUE.is("a full one", x.ring(0, 16, 3), 0);
        DUE.is("fall(0, 16)", x.fall(0, 16), -3);
    }

    private static void fallThatCutsNothing() {
        for (int water = 4; water <= 7; water++) {
            for (int brine = 4; brine <= 7; brine++) {
                SaltRooms x = Build.strong();
                Build.reaching(x, 100, 4, 7, 7, 1, 10);
                x.string(0, water, brine, 7);
                x.fall(0, 6);
                DUE.is("CUT at " + water + " and " + brine, x.of(0, 11), water == 7 || brine == 7 ? 1 : 0);
            }
        }
    }

    private static void fallRefused() {
        SaltRooms x = Build.strong();
        Build.reaching(x, 100, 4, 7, 1, 6, 20);
        DUE.is("fall(1, 5)", x.fall(1, 5), -1);
        DUE.is("fall(-1, 5)", x.fall(-1, 5), -1);
        DUE.is("fall(0, 3)", x.fall(0, 3), -1);
        DUE.is("fall(0, 8)", x.fall(0, 8), -1);
        DUE.is("by just OVER", x.fall(0, 5), -3);
        x.set(3, 4);
        DUE.is("by more than OVER", x.fall(0, 5), 3);
        x.giveUp(0);
        DUE.is("given up", x.fall(0, 6), -3);
    }

    private static void mend() {
        SaltRooms x = Build.strong();
        Build.reaching(x, 100, 4, 7, 7, 1, 20);
        DUE.is("mend(1)", x.mend(1), -1);
        DUE.is("mend(-1)", x.mend(-1), -1);
        DUE.is("not CUT", x.mend(0), -3);
        x.string(0, 7, 7, 7);
        x.fall(0, 6);
        DUE.is("CUT", x.of(0, 11), 1);
        DUE.is("step", x.step(0, 5), -3);
        DUE.is("half", x.half(0, 4), -3);
        DUE.is("plan", x.plan(0, 1, 0), -3);
        DUE.is("string", x.string(0, 7, 7, 4), 1);
        DUE.is("CUT still", x.of(0, 11), 1);
        DUE.is("mend(0)", x.mend(0), 1);
        DUE.is("not CUT", x.of(0, 11), 0);
        DUE.is("mend(0)", x.mend(0), -3);
        DUE.is("step", x.step(0, 5), 4);
    }

    /** REACHES 12, 6, 3, 9, 2 from LEVEL 10 on. */
    private static void hidden() {
        SaltRooms x = Build.strong();
        Build.reaching(x, 100, 10, 12, 6, 3, 9, 2);
        DUE.is("no tools", x.hidden(0, 0), 31 << 10);
        // From 10: 11 is beside, 12 past 6 (6 2 and 3 1); 13 (9) past 6 (18 and 9), 3 (9 and 18): hidden;
        // 14 (2) past 6, 3 (12 and 4), 9.
        DUE.is("from 10", x.hidden(0, 1 << 10), 1 << 13);
        // From 12: 10 (12) past 6 is 6 2 and 12 1: seen on the line itself; 14 past 9.
        DUE.is("from 12", x.hidden(0, 1 << 12), 0);
        // From 14: 12 (3) past 9; 11 (6) past 9, 3 (9 and 12): hidden; 10 (12) past 9 (36, 12), 3 (12, 24): hidden.
        DUE.is("from 14", x.hidden(0, 1 << 14), 1 << 11 | 1 << 10);
        DUE.is("from 14 and 11", x.hidden(0, 1 << 14 | 1 << 11), 0);
        DUE.is("from 10 and 14", x.hidden(0, 1 << 14 | 1 << 10), 0);
        DUE.is("those not of it count nothing", x.hidden(0, 1 << 14 | 1 << 9 | 1 << 15 | 1 << 30 | 1 << 31), 3 << 10);
        DUE.is("all of them", x.hidden(0, -1), 0);
        DUE.is("hidden(1, 1)", x.hidden(1, 1), -1);
        DUE.is("hidden(-1, 1)", x.hidden(-1, 1), -1);
        SaltRooms deep = new SaltRooms();
        deep.cavern(5, 0, 29);
        DUE.is("thirty rings", deep.hidden(0, 0), (1 << 30) - 1);
        DUE.is("level 29's tool", deep.hidden(0, 1 << 29), 0);
    }

    private static void hiddenByFullRings() {
        SaltRooms x = Due.rooms("d930");
        x.cavern(5, 0, 3);
        x.string(0, 3, 1, 0);
        x.step(0, 50);
        DUE.is("rings 2 and 3 are full", x.ring(0, 2, 2) + x.ring(0, 3, 2), 2);
        DUE.is("from all", x.hidden(0, 15), 12);
        DUE.is("from full ones", x.hidden(0, 12), 15);
        DUE.is("from 1", x.hidden(0, 2), 12);
    }

    private static void reading() {
        SaltRooms x = new SaltRooms();
        x.cavern(5, 3, 5);
        DUE.is("no cavern", x.reading(1, 3, 5, 5), -1);
        DUE.is("no cavern", x.reading(-1, 3, 5, 5), -1);
        DUE.is("no ring", x.reading(0, 2, -1, 5), -1);
        DUE.is("no ring", x.reading(0, 6, 5, 5), -1);
        DUE.is("reach -1", x.reading(0, 3, -1, 500), -4);
        DUE.is("doubt -1", x.reading(0, 3, 5000, -1), -4);
        DUE.is("reach 1000", x.reading(0, 3, 1000, 5), -6);
        DUE.is("doubt 100", x.reading(0, 3, 5, 100), -6);
        DUE.is("none yet", x.count(7), 0);
        DUE.is("the first", x.reading(0, 3, 999, 99), 0);
        DUE.is("the next", x.reading(0, 5, 0, 0), 1);
        DUE.is("count(7)", x.count(7), 2);
        x.giveUp(0);
        DUE.is("of a given up one", x.reading(0, 5, 0, 0), 2);
    }

    private static void readingsAtMost() {
        SaltRooms x = new SaltRooms();
        x.cavern(5, 3, 5);
        x.cavern(50, 3, 5);
        for (int i = 0; i < 40; i++) {
            DUE.is("reading " + i, x.reading(i % 2, 3 + i % 3, i, 5), i);
        }
        DUE.is("one more", x.reading(0, 3, 5, 5), -6);
        DUE.is("one more below", x.reading(0, 3, -5, 5), -4);
        DUE.is("count(7)", x.count(7), 40);
        // Cavern 0 at level 3: 0, 6, 12, .. 36.
        DUE.is("lower", x.bounds(0, 3, 0), 31);
        DUE.is("upper", x.bounds(0, 3, 1), 5);
    }

    private static void bounds() {
        SaltRooms x = new SaltRooms();
        x.cavern(5, 3, 5);
        x.cavern(50, 3, 5);
        DUE.is("without readings", x.bounds(0, 3, 0), -9);
        DUE.is("without readings", x.bounds(0, 3, 1), -9);
        x.reading(0, 3, 10, 30);
        DUE.is("below 0", x.bounds(0, 3, 0), -20);
        DUE.is("upper", x.bounds(0, 3, 1), 40);
        x.reading(0, 3, 35, 10);
        x.reading(0, 3, 34, 8);
        DUE.is("the greatest", x.bounds(0, 3, 0), 26);
        DUE.is("the least", x.bounds(0, 3, 1), 40);
        DUE.is("another ring", x.bounds(0, 4, 0), -9);
        DUE.is("another cavern", x.bounds(1, 3, 0), -9);
        DUE.is("no cavern", x.bounds(2, 3, 5), -1000000001);
        DUE.is("no ring", x.bounds(0, 2, 0), -1000000001);
        DUE.is("no ring", x.bounds(0, 6, 0), -1000000001);
        DUE.is("no what", x.bounds(0, 3, 2), -1000000002);
        DUE.is("no what, no readings", x.bounds(0, 4, -1), -1000000002);
        DUE.is("count(11)", x.count(11), 3);
        DUE.is("count(12)", x.count(12), 2);
    }

    private static void quarrel() {
        SaltRooms x = new SaltRooms();
        x.cavern(5, 3, 5);
        x.cavern(50, 3, 5);
        DUE.is("none", x.quarrel(0), -9);
        x.reading(0, 3, 10, 2);
        x.reading(0, 4, 50, 2);
        x.reading(1, 3, 90, 2);
        DUE.is("other rings", x.quarrel(0), -9);
        x.reading(0, 3, 14, 2);
        DUE.is("they touch", x.quarrel(0), -9);
        x.reading(1, 3, 95, 2);
        DUE.is("of the other one", x.quarrel(1), 4);
        DUE.is("not of this one", x.quarrel(0), -9);
        x.reading(0, 5, 14, 2);
        x.reading(0, 4, 45, 2);
        x.reading(0, 3, 11, 0);
        DUE.is("the first behind which", x.quarrel(0), 6);
        SaltRooms y = new SaltRooms();
        y.cavern(5, 3, 5);
        y.reading(0, 3, 10, 2);
        y.reading(0, 3, 12, 2);
        y.reading(0, 3, 20, 2);
        DUE.is("the last of three", y.quarrel(0), 2);
        DUE.is("no cavern", x.quarrel(2), -1);
        DUE.is("no cavern", x.quarrel(-1), -1);
    }

    /** REACHES 12, 6, 3, 9, 2 as in hidden: from 10 all but 13, from 14 all but 10 and 11. */
    private static void nextEcho() {
        SaltRooms x = Build.strong();
        Build.reaching(x, 100, 10, 12, 6, 3, 9, 2);
        // From 11: 13 (9) past 3 (6 and 9) is hidden; from 12 all are seen; from 13: 11 past 3 (6, 6), 10.
        DUE.is("without readings", x.nextEcho(0, 5), 12);
        x.reading(0, 13, 9, 2);
        DUE.is("13 is known to 4", x.nextEcho(0, 4), 10);
        DUE.is("and not to 3", x.nextEcho(0, 3), 12);
        x.reading(0, 10, 12, 0);
        x.reading(0, 11, 6, 0);
        x.reading(0, 12, 3, 0);
        DUE.is("14 alone, from 10", x.nextEcho(0, 4), 10);
        x.reading(0, 14, 3, 10);
        DUE.is("within 20", x.nextEcho(0, 20), -9);
        DUE.is("within 19", x.nextEcho(0, 19), 10);
        x.reading(0, 14, 3, 9);
        DUE.is("within 18", x.nextEcho(0, 18), -9);
        DUE.is("-9 is not counted", x.count(11) + x.count(13), 0);
        SaltRooms y = Build.strong();
        Build.reaching(y, 100, 10, 2, 9, 2, 9, 2);
        y.reading(0, 10, 2, 0);
        y.reading(0, 12, 2, 0);
        y.reading(0, 14, 2, 0);
        // 11 and 13 see the other one only past 2; 12 sees both.
        DUE.is("from between", y.nextEcho(0, 0), 12);
        DUE.is("of another cavern nothing", Build.cavern(y, 900, 0, 1), 1);
        DUE.is("of another cavern", y.nextEcho(1, 0), 0);
    }

    private static void nextEchoRefused() {
        SaltRooms x = new SaltRooms();
        x.cavern(5, 3, 5);
        DUE.is("no cavern", x.nextEcho(1, -1), -1);
        DUE.is("no cavern", x.nextEcho(-1, -1), -1);
        DUE.is("w -1", x.nextEcho(0, -1), -4);
        DUE.is("w 1000", x.nextEcho(0, 1000), -6);
        DUE.is("w 999", x.nextEcho(0, 999), 3);
        SaltRooms y = Due.rooms("d930");
        y.cavern(5, 0, 2);
        y.string(0, 2, 1, 0);
        y.step(0, 50);
        y.reading(0, 0, 5, 0);
        y.reading(0, 1, 5, 0);
        DUE.is("a full ring is not to be seen", y.nextEcho(0, 5), -9);
    }
}

/** Promises 43 and 44: what is UNDONE, and what is counted; that REFUSALS change nothing else. */
public final class ActsTest {
    private static final Due DUE = new Due("ActsTest");

    public static void main(String[] args) {
        undoOfSteps();
        undoOfStrings();
        undoOfFills();
        undoOfSeveralCaverns();
        undoIsNoAct();
        undoKeepsWhatIsNoAct();
        undoAtMost();
        undoForgotten();
        notForgotten();
        refusedIsNoAct();
        count();
        countOfRefusals();
        DUE.end();
    }

    private static SaltRooms three() {
        SaltRooms x = new SaltRooms();
        x.cavern(100, 10, 12);
        return x;
    }

    private static void undoOfSteps() {
        SaltRooms x = Due.rooms("d930");
        DUE.is("nothing yet", x.undo(), -3);
        x.cavern(5, 0, 3);
        x.string(0, 3, 1, 0);
        x.step(0, 1);
        String before = Sight.of(x);
        DUE.is("step", x.step(0, 50), 15);
        DUE.is("full", x.ring(0, 3, 2), 1);
        DUE.is("undo", x.undo(), 1);
        DUE.is("as before", Sight.of(x).equals(before) ? 1 : 0, 1);
        DUE.is("undo", x.undo(), 1);
        DUE.is("planned again", x.of(0, 0), 0);
        DUE.is("OUT", x.count(5), 0);
        DUE.is("fell", x.count(6), 0);
        DUE.is("count(4)", x.count(4), 1);
        DUE.is("undo", x.undo(), 1);
        DUE.is("the string at first", x.of(0, 12) * 100 + x.of(0, 13) * 10 + x.of(0, 14), 300);
        DUE.is("undo", x.undo(), -3);
        DUE.is("count(13)", x.count(13), 2);
    }

    private static void undoOfStrings() {
        SaltRooms x = three();
        x.string(0, 11, 12, 11);
        x.string(0, 11, 12, 11);
        x.string(0, 10, 10, 12);
        DUE.is("count(4)", x.count(4), 3);
        x.undo();
        DUE.is("the one before", x.of(0, 12) * 10000 + x.of(0, 13) * 100 + x.of(0, 14), 111211);
        x.undo();
        DUE.is("the same twice", x.of(0, 12) * 10000 + x.of(0, 13) * 100 + x.of(0, 14), 111211);
        x.undo();
        DUE.is("the first", x.of(0, 12) * 10000 + x.of(0, 13) * 100 + x.of(0, 14), 121010);
    }

    private static void undoOfFills() {
        SaltRooms x = three();
        x.step(0, 99);
        x.fill(0, false, 10, true);
        x.owner(1);
        x.fill(0, false, 20, true);
        x.fill(0, false, 15, false);
        x.fill(0, true, 700, true);
        x.fill(0, true, 200, false);
        DUE.is("count(4)", x.count(4), 6);
        x.undo();
        DUE.is("gas", x.of(0, 7), 700);
        x.undo();
        DUE.is("gas", x.of(0, 7), 0);
        DUE.is("oil", x.of(0, 6), 15);
        x.undo();
        DUE.is("oil", x.of(0, 6), 30);
        DUE.is("the lots", x.has(0, 0, false) * 100 + x.has(1, 0, false), 1020);
        DUE.is("drawn", x.has(0, 0, true) + x.has(1, 0, true), 0);
        x.fill(0, false, 12, false);
        DUE.is("in their order still", x.has(0, 0, true) * 100 + x.has(1, 0, true), 1002);
        x.undo();
        x.undo();
        DUE.is("the lots", x.has(0, 0, false) * 100 + x.has(1, 0, false), 1000);
        DUE.is("kept", x.of(0, 0), 2);
        x.undo();
        DUE.is("washed again", x.of(0, 0), 1);
        DUE.is("the owner stays", x.owner(2), 1);
        DUE.is("it may be washed", x.step(0, 99), 202);
    }

    private static void undoOfSeveralCaverns() {
        SaltRooms x = three();
        x.cavern(500, 3, 4);
        x.step(0, 99);
        x.step(1, 50);
        x.string(0, 10, 12, 10);
        x.fill(1, false, 3, true);
        x.undo();
        DUE.is("cavern 1's oil", x.of(1, 6), 0);
        DUE.is("cavern 0's string", x.of(0, 12), 10);
        x.undo();
        DUE.is("cavern 0's string", x.of(0, 12), 12);
        DUE.is("cavern 1's rings", x.ring(1, 4, 0), 46);
        x.undo();
        DUE.is("cavern 1's rings", x.ring(1, 4, 0), 1);
        DUE.is("cavern 0's rings", x.ring(0, 12, 0), 90);
        x.undo();
        DUE.is("cavern 0's rings", x.ring(0, 12, 0), 1);
        DUE.is("no more", x.undo(), -3);
    }

    private static void undoIsNoAct() {
        SaltRooms x = three();
        x.step(0, 50);
        x.step(0, 60);
        x.undo();
        x.step(0, 99);
        DUE.is("count(4)", x.count(4), 2);
        x.undo();
        DUE.is("behind the first", x.ring(0, 12, 0), 46);
        x.undo();
        DUE.is("ahead of it", x.ring(0, 12, 0), 1);
        DUE.is("count(4)", x.count(4), 0);
    }

    /** A CUT STRING that was mended behind an ACT stays mended; LAWS and the like are as told. */
    private static void undoKeepsWhatIsNoAct() {
        SaltRooms x = Build.strong();
        Build.reaching(x, 100, 4, 7, 7, 1, 20);
        x.string(0, 7, 7, 7);
        x.fall(0, 6);
        x.string(0, 6, 6, 6);
        x.law(3, 5);
        x.gives(0, 5);
        x.need(0, 5);
        x.reading(0, 5, 5, 5);
        x.test(0, 1, 5, 0, 0, 0);
        x.choice(5, 5, 5);
        x.mend(0);
        DUE.is("undo", x.undo(), 1);
        DUE.is("mended", x.of(0, 11), 0);
        DUE.is("the string", x.of(0, 12), 7);
        DUE.is("law", x.law(3, 5), 5);
        DUE.is("gives", x.gives(0, 5), 5);
        DUE.is("need", x.need(0, 5), 5);
        DUE.is("readings", x.count(7), 1);
        DUE.is("tests", x.leak(0, 0), 5);
        DUE.is("choices", x.count(3), 1);
    }

    private static void undoAtMost() {
        SaltRooms x = three();
        for (int i = 0; i < 230; i++) {
            x.string(0, 10 + i % 3, 10, 10);
            DUE.is("count(4)", x.count(4), Math.min(i + 1, 200));
        }
        for (int i = 229; i >= 30; i--) {
            DUE.is("water", x.of(0, 12), 10 + i % 3);
            x.undo();
        }
        DUE.is("the thirtieth stays", x.of(0, 12), 10 + 29 % 3);
        DUE.is("count(4)", x.count(4), 0);
        DUE.is("no more", x.undo(), -3);
        x.string(0, 12, 12, 12);
        DUE.is("count(4)", x.count(4), 1);
        DUE.is("undo", x.undo(), 1);
        DUE.is("water", x.of(0, 12), 10 + 29 % 3);
    }

    private static void undoForgotten() {
        for (int way = 0; way < 5; way++) {
            SaltRooms x = Build.strong();
            Build.reaching(x, 100, 4, 7, 7, 1, 20);
            x.cavern(500, 4, 5);
            x.string(1, 5, 5, 5);
            x.step(1, 50);
            x.fill(1, false, 5, true);
            DUE.is("three ACTS", x.count(4), 3);
            int[] answers = {1, 225 - 1, 2, 1, 1};
            int got = switch (way) {
                case 0 -> x.years(1);
                case 1 -> x.fall(0, 6);
                case 2 -> x.cavern(900, 0, 0);
                case 3 -> x.close(0);
                default -> x.giveUp(0);
            };
            DUE.is("what forgets them", got, answers[way]);
            DUE.is("none", x.count(4), 0);
            DUE.is("undo", x.undo(), -3);
            DUE.is("as it was", x.of(1, 6), 5);
        }
    }

    private static void notForgotten() {
        SaltRooms x = Build.strong();
        Build.reaching(x, 100, 4, 7, 7, 1, 20);
        int were = x.count(4);
        Due.feed(x, "s30");
        x.beds();
        x.cavern(5, 9, 8);
        x.years(21);
        x.fall(0, 5);
        x.close(5);
        x.giveUp(5);
        x.law(0, 5);
        x.set(0, 1);
        x.owner(3);
        x.spread(5);
        x.mend(0);
        x.breach(0, true);
        x.half(0, 4);
        x.choice(5, 5, 5);
        x.plan(0, 2, 0);
        x.noChoices();
        x.aim(5, 5);
        x.need(0, 5);
        x.gives(0, 5);
        x.reading(0, 5, 5, 5);
        x.test(0, 1, 5, 0, 0, 0);
        DUE.is("none is forgotten", x.count(4), were);
        DUE.is("undo", x.undo(), 1);
    }

    private static void refusedIsNoAct() {
        SaltRooms x = three();
        x.cavern(110, 10, 12);
        x.string(0, 9, 10, 10);
        x.step(0, 100);
        x.step(0, 99);
        x.fill(0, false, 5, true);
        x.fill(0, true, 5, false);
        DUE.is("none", x.count(4), 0);
        DUE.is("undo", x.undo(), -3);
    }

    private static void count() {
        SaltRooms x = Due.rooms("d930");
        x.cavern(100, 10, 12);
        x.cavern(300, 10, 12);
        x.step(0, 50);
        x.step(1, 60);
        Due.feed(x, "abc");
        x.choice(5, 5, 5);
        x.reading(0, 11, 5, 5);
        DUE.is("YEAR", x.count(0), 0);
        DUE.is("CAVERNS", x.count(1), 2);
        DUE.is("bytes", x.count(2), 3);
        DUE.is("CHOICES", x.count(3), 1);
        DUE.is("ACTS", x.count(4), 2);
        // 5, 5, half of 45 less 19; 6 (of 54), 6 (of 54), 27 less 24.
        DUE.is("OUT", x.count(5), 13 + 15);
        DUE.is("fell", x.count(6), 40 + 40 + 19 + 48 + 48 + 24);
        DUE.is("READINGS", x.count(7), 1);
        x.giveUp(0);
        DUE.is("OUT of a given up one too", x.count(5), 28);
        x.years(7);
        DUE.is("YEAR", x.count(0), 7);
        DUE.is("what fell is as it was", x.count(6), 219);
        int[] others = {-1, 8, 9, 10, 18, 19, 100, Integer.MAX_VALUE, Integer.MIN_VALUE};
        for (int what : others) {
            DUE.is("count(" + what + ")", x.count(what), -9);
        }
        for (int what = 11; what <= 17; what++) {
            DUE.is("no refusals", x.count(what), 0);
        }
    }

    private static void countOfRefusals() {
        SaltRooms x = three();
        x.cavern(110, 10, 12);
        x.set(2, 11);
        x.bed(30);
        x.wall(0, 0, 10);
        x.bounds(0, 9, 0);
        x.bounds(0, 10, 2);
        x.set(9, 9);
        x.undo();
        x.years(0);
        x.years(21);
        x.spread(1000);
        x.step(0, 9);
        x.half(0, 3);
        x.beds();
        int[] due = {3, 2, 3, 1, 0, 2, 1};
        for (int i = 0; i < due.length; i++) {
            DUE.is("count(" + (11 + i) + ")", x.count(11 + i), due[i]);
        }
    }
}

/** The edges that the document names under VI, and of promises 1, 43 and 44: ACTS, what is counted, a new object. */
public final class EdgesOfActsTest {
    private static final Due DUE = new Due("EdgesOfActsTest");
    private static final int MIN = Integer.MIN_VALUE;
    private static final int MAX = Integer.MAX_VALUE;

    public static void main(String[] args) {
        aNewObject();
        objectsOfTheirOwn();
        noActs();
        actsTo200();
        actsPast200();
        actsBehindUndone();
        actsOfEachKind();
        actsOfSeveralCaverns();
        lotsAreTakenBack();
        fullRingsAreTakenBack();
        statesAreTakenBack();
        whatForgets();
        whatForgetsNothing();
        refusedOnesForgetNothing();
        refusedOnesAreNone();
        countsOfAll();
        outAndFallenAreTakenBack();
        refusalsOfEachNumber();
        calls512();
        DUE.end();
    }

    private static SaltRooms three() {
        SaltRooms x = new SaltRooms();
        x.cavern(100, 10, 12);
        return x;
    }

    private static void same(String name, String before, SaltRooms x) {
        DUE.is(name, before.equals(Whole.of(x)) ? 1 : 0, 1);
    }

    /** "YEAR 0; all salt; nothing." */
    private static void aNewObject() {
        SaltRooms x = new SaltRooms();
        for (int what = 0; what <= 17; what++) {
            DUE.is("count(" + what + ")", x.count(what), what >= 8 && what <= 10 ? -9 : 0);
        }
        int[] refused = {x.of(0, 0), x.ring(0, 0, 0), x.string(0, 0, 0, 0), x.step(0, 1), x.half(0, 2),
            x.between(0, 0, 0, true), x.fill(0, true, 1, true), x.has(0, 0, false), x.close(0), x.giveUp(0),
            x.breach(0, true), x.near(0, 0), x.fall(0, 0), x.mend(0), x.hidden(0, 0), x.reading(0, 0, 0, 0),
            x.quarrel(0), x.nextEcho(0, 0), x.test(0, 1, 0, 0, 0, 0), x.leak(0, 0), x.gives(0, 0), x.plan(0, 1, 0)};
        for (int i = 0; i < refused.length; i++) {
            DUE.is("no CAVERN: call " + i, refused[i], -1);
        }
        DUE.is("wall", x.wall(0, 0, 0), -1000000001);
        DUE.is("bounds", x.bounds(0, 0, 0), -1000000001);
        DUE.is("undo", x.undo(), -3);
        DUE.is("count(11)", x.count(11), refused.length + 2);
        DUE.is("count(13)", x.count(13), 1);
        DUE.is("beds", x.beds(), -20);
        DUE.is("sinks", x.sinks(-1) + x.sinks(0) + x.sinks(999), 0);
        DUE.is("given and proof", x.given(-1) + x.given(11) + x.proof(0) + x.proof(11), 0);
        DUE.is("no CHOICES", x.noChoices(), 0);
        DUE.is("a YEAR", x.years(1), 1);
    }

    /** What one object is told, another is not. */
    private static void objectsOfTheirOwn() {
        String before = Whole.of(new SaltRooms());
        SaltRooms x = new Scenes(Scenes.STATES).make();
        x.law(0, 5);
        x.set(1, 50);
        x.spread(7);
        x.owner(3);
        x.aim(0, 5);
        x.need(0, 5);
        same("a new one is as ever", before, new SaltRooms());
        SaltRooms y = new SaltRooms();
        SaltRooms z = new SaltRooms();
        y.cavern(5, 3, 5);
        DUE.is("no CAVERN", z.of(0, 0), -1);
        DUE.is("not counted in the other", y.count(11), 0);
    }

    /** "-3 there is none." */
    private static void noActs() {
        SaltRooms x = three();
        for (int i = 1; i <= 3; i++) {
            DUE.is("undo", x.undo(), -3);
            DUE.is("count(13)", x.count(13), i);
            DUE.is("count(4)", x.count(4), 0);
        }
        x.string(0, 12, 12, 12);
        DUE.is("one", x.count(4), 1);
        DUE.is("undo", x.undo(), 1);
        DUE.is("none", x.count(4), 0);
        DUE.is("undo", x.undo(), -3);
    }

    /** So many ACTS, each of which brings one GAS: no two of them leave the same. */
    private static SaltRooms numbered(int many) {
        SaltRooms x = new SaltRooms();
        x.cavern(100, 15, 29);
        x.step(0, 99);
        x.years(1);
        for (int i = 1; i <= many; i++) {
            DUE.is("GAS", x.fill(0, true, 1, true), i);
        }
        return x;
    }

    /** "200 at most are kept". */
    private static void actsTo200() {
        for (int many : new int[] {1, 2, 199, 200}) {
            SaltRooms x = numbered(many);
            DUE.is("count(4)", x.count(4), many);
            for (int left = many - 1; left >= 0; left--) {
                DUE.is("undo", x.undo(), 1);
                DUE.is("GAS", x.of(0, 7), left);
            }
            DUE.is("washed, as ahead of all", x.of(0, 0), 1);
            DUE.is("undo", x.undo(), -3);
        }
    }

    /** "the latest first, all there were (200 at most are kept": the latest 200. */
    private static void actsPast200() {
        for (int many : new int[] {201, 202, 250, 299}) {
            SaltRooms x = numbered(many);
            DUE.is("count(4)", x.count(4), 200);
            for (int i = 1; i <= 200; i++) {
                DUE.is("undo", x.undo(), 1);
                if (i == 1 || i == 2 || i == 100 || i >= 198) {
                    DUE.is("GAS behind " + i + " of " + many, x.of(0, 7), many - i);
                }
            }
            DUE.is("count(4)", x.count(4), 0);
            DUE.is("undo", x.undo(), -3);
            DUE.is("the first ones stay", x.of(0, 7), many - 200);
            DUE.is("kept still", x.of(0, 0), 2);
        }
    }

    /** ACTS that come behind some that were UNDONE, also past 200. */
    private static void actsBehindUndone() {
        SaltRooms x = numbered(205);
        for (int i = 0; i < 10; i++) {
            x.undo();
        }
        DUE.is("195 and 190", x.of(0, 7) * 1000 + x.count(4), 195190);
        for (int i = 1; i <= 15; i++) {
            DUE.is("GAS", x.fill(0, true, 2, true), 195 + 2 * i);
            DUE.is("count(4)", x.count(4), Math.min(200, 190 + i));
        }
        for (int i = 14; i >= 0; i--) {
            x.undo();
            DUE.is("GAS", x.of(0, 7), 195 + 2 * i);
        }
        for (int i = 1; i <= 185; i++) {
            x.undo();
        }
        DUE.is("the first ten stay", x.of(0, 7) * 1000 + x.count(4), 10000);
        DUE.is("undo", x.undo(), -3);
    }

    /** "STEPS, STRINGS, what is filled and drawn": each of them is one ACT, and is taken back whole. */
    private static void actsOfEachKind() {
        SaltRooms x = new Scenes(Scenes.STATES).make();
        String[] before = new String[12];
        int acts = 2;
        for (int i = 0; i < 12; i++) {
            before[i] = Whole.of(x);
            DUE.is("ACT " + i, act(x, i) >= 0 ? 1 : 0, 1);
            acts++;
            DUE.is("count(4)", x.count(4), acts);
        }
        for (int i = 11; i >= 0; i--) {
            DUE.is("undo", x.undo(), 1);
            same("as ahead of ACT " + i, before[i], x);
        }
    }

    private static int act(SaltRooms x, int i) {
        switch (i) {
            case 0:
                return x.step(0, 99);
            case 1:
                return x.string(0, 11, 10, 11);
            case 2:
                return x.string(1, 4, 7, 5);
            case 3:
                return x.step(0, 1);
            case 4:
                return x.fill(1, false, 50, true);
            case 5:
                return x.fill(1, true, 300, true);
            case 6:
                return x.fill(2, false, 5, false);
            case 7:
                return x.fill(2, true, 100, false);
            case 8:
                x.owner(4);
                int there = x.fill(2, false, 7, true);
                x.owner(0);
                return there;
            case 9:
                return x.fill(0, false, 1, true);
            case 10:
                return x.fill(0, false, 1, false);
            default:
                return x.fill(2, false, 500, false);
        }
    }

    private static void actsOfSeveralCaverns() {
        SaltRooms x = new SaltRooms();
        for (int c = 0; c < 5; c++) {
            x.cavern(200 * c, 10, 12);
        }
        for (int i = 0; i < 20; i++) {
            x.step(i % 5, 99);
        }
        for (int i = 19; i >= 0; i--) {
            x.undo();
            for (int c = 0; c < 5; c++) {
                int steps = (i + 4 - c) / 5;
                DUE.is("cavern " + c + " behind " + i, x.of(c, 1), 202 * steps);
            }
        }
        DUE.is("undo", x.undo(), -3);
    }

    /** LOTS that were put together, parted or gone, and what was drawn of each OWNER. */
    private static void lotsAreTakenBack() {
        SaltRooms x = three();
        x.step(0, 99);
        x.owner(1);
        x.fill(0, false, 10, true);
        x.fill(0, false, 5, true);
        x.owner(2);
        x.fill(0, false, 3, true);
        x.fill(0, false, 16, false);
        x.fill(0, false, 2, false);
        DUE.is("drawn of 1 and 2", x.has(1, 0, true) * 100 + x.has(2, 0, true), 1503);
        x.undo();
        DUE.is("drawn of 1 and 2", x.has(1, 0, true) * 100 + x.has(2, 0, true), 1501);
        DUE.is("there of 1 and 2", x.has(1, 0, false) * 100 + x.has(2, 0, false), 2);
        x.undo();
        DUE.is("drawn of 1 and 2", x.has(1, 0, true) + x.has(2, 0, true), 0);
        DUE.is("there of 1 and 2", x.has(1, 0, false) * 100 + x.has(2, 0, false), 1503);
        x.undo();
        DUE.is("there of 1 and 2", x.has(1, 0, false) * 100 + x.has(2, 0, false), 1500);
        x.fill(0, false, 1, true);
        DUE.is("OWNER 2 still, behind 1", x.fill(0, false, 15, false), 1);
        DUE.is("there of 1 and 2", x.has(1, 0, false) * 100 + x.has(2, 0, false), 1);
        // Of 30 LOTS one that was drawn and taken back is there again.
        SaltRooms y = three();
        y.step(0, 99);
        for (int i = 0; i < 30; i++) {
            y.owner(i % 2);
            y.fill(0, false, 1, true);
        }
        y.fill(0, false, 1, false);
        y.undo();
        y.owner(2);
        DUE.is("30 LOTS", y.fill(0, false, 1, true), -6);
        y.undo();
        DUE.is("29 LOTS", y.fill(0, false, 1, true), 30);
        DUE.is("30 LOTS", y.owner(3) + y.fill(0, false, 1, true), 2 - 6);
    }

    /** A STEP by which RINGS became FULL and the STRING was lifted. */
    private static void fullRingsAreTakenBack() {
        SaltRooms x = Due.rooms("d930");
        x.cavern(5, 10, 13);
        x.string(0, 13, 11, 10);
        String before = Whole.of(x);
        for (int times = 0; times < 3; times++) {
            x.step(0, 50);
            DUE.is("two are FULL", x.ring(0, 12, 2) + x.ring(0, 13, 2), 2);
            DUE.is("a FULL one", x.string(0, 13, 11, 10), -1);
            DUE.is("undo", x.undo(), 1);
            same("as before", before, x);
        }
        DUE.is("a STRING to it again", x.string(0, 13, 13, 13), 1);
    }

    private static void statesAreTakenBack() {
        SaltRooms x = three();
        x.step(0, 1);
        x.step(0, 99);
        x.fill(0, true, 1, true);
        x.fill(0, true, 1, false);
        int[] due = {2, 1, 1, 0};
        for (int state : due) {
            x.undo();
            DUE.is("STATE", x.of(0, 0), state);
        }
        x.fill(0, false, 2, true);
        DUE.is("kept, never washed", x.of(0, 0), 2);
        x.undo();
        DUE.is("planned", x.of(0, 0), 0);
    }

    /** "as YEARS pass, something FALLS, is told of I, or CLOSED or given up, all are forgotten": 200 of them, too. */
    private static void whatForgets() {
        for (int way = 0; way < 7; way++) {
            SaltRooms x = Build.strong();
            Build.reaching(x, 100, 4, 7, 7, 1, 20);
            x.cavern(500, 4, 5);
            x.close(1);
            DUE.is("none behind CLOSED", x.count(4), 0);
            for (int i = 0; i < (way % 2 == 0 ? 200 : 1); i++) {
                x.string(0, 7, 4 + i % 3, 4);
            }
            int answer = 0;
            switch (way) {
                case 0:
                    answer = x.years(1);
                    break;
                case 1:
                    answer = x.years(20) - 19;
                    break;
                case 2:
                    answer = x.fall(0, 6) - 223;
                    break;
                case 3:
                    answer = x.cavern(900, 29, 29) - 1;
                    break;
                case 4:
                    answer = x.close(0);
                    break;
                case 5:
                    answer = x.giveUp(0);
                    break;
                default:
                    answer = x.giveUp(1);
            }
            DUE.is("it is done", answer, 1);
            DUE.is("none is left", x.count(4), 0);
            DUE.is("undo", x.undo(), -3);
            DUE.is("another one", x.fill(0, true, 1, true), way == 4 || way == 5 ? -3 : 1);
            DUE.is("count(4)", x.count(4), way == 4 || way == 5 ? 0 : 1);
        }
    }

    private static void whatForgetsNothing() {
        SaltRooms x = new Scenes(Scenes.STATES).make();
        x.mend(1);
        x.set(0, 1);
        x.law(5, 5);
        x.owner(5);
        x.spread(5);
        x.reading(0, 10, 5, 5);
        x.test(0, 1, 1, 1, 1, 1);
        x.need(5, 5);
        x.gives(2, 5);
        x.aim(10, 5);
        x.choice(10, 10, 5);
        x.plan(0, 2, 0);
        x.noChoices();
        x.half(0, 50);
        x.breach(3, true);
        x.feed(7, 0);
        DUE.is("two still", x.count(4), 2);
        DUE.is("undo", x.undo(), 1);
        DUE.is("its GAS", x.of(2, 7), 0);
        DUE.is("undo", x.undo(), 1);
        DUE.is("its OIL", x.of(2, 6), 0);
        DUE.is("washed", x.of(2, 0), 1);
        DUE.is("told ones stay", x.owner(0) + x.spread(0) + x.need(5, 0) + x.gives(2, 0) + x.aim(10, 0), 25);
    }

    private static void refusedOnesForgetNothing() {
        SaltRooms x = new Scenes(Scenes.STATES).make();
        x.years(0);
        x.years(21);
        x.years(60);
        x.fall(1, 6);
        x.fall(4, 2);
        x.cavern(5, 5, 5);
        x.cavern(-1, 5, 5);
        x.cavern(5, 5, 4);
        x.beds();
        x.close(3);
        x.close(4);
        x.close(5);
        x.giveUp(4);
        x.giveUp(-1);
        DUE.is("two still", x.count(4), 2);
        DUE.is("undo", x.undo() + x.undo(), 2);
        DUE.is("undo", x.undo(), -3);
    }

    /** "each that was not refused". */
    private static void refusedOnesAreNone() {
        SaltRooms x = new Scenes(Scenes.FEW).make();
        x.step(0, 0);
        x.step(0, 100);
        x.step(0, 4);
        x.step(2, 5);
        x.string(0, 3, 4, 4);
        x.string(2, 4, 4, 4);
        x.fill(0, true, 15, true);
        x.fill(0, false, 3, true);
        x.fill(0, true, 1, false);
        x.fill(0, true, 0, true);
        x.undo();
        DUE.is("none", x.count(4), 0);
        DUE.is("a STEP", x.step(0, 3), 5);
        DUE.is("one", x.count(4), 1);
        SaltRooms y = new Scenes(Scenes.FULL).make();
        y.fill(0, false, 1, true);
        y.fill(0, true, 500, false);
        DUE.is("200, and one more", y.count(4), 200);
        DUE.is("undo", y.undo(), 1);
        DUE.is("GAS", y.of(0, 7), 500);
        DUE.is("199", y.count(4), 199);
    }

    /** "0 YEAR, 1 CAVERNS, 2 bytes, 3 CHOICES, 4 ACTS, 5 .. OUT, 6 .. fell, 7 READINGS, 11 .. 17"; "-9 for another". */
    private static void countsOfAll() {
        for (int scene = 0; scene < Scenes.MANY; scene++) {
            Scenes s = new Scenes(scene);
            SaltRooms x = s.make();
            int out = 0;
            int fell = 0;
            for (int c = 0; c < s.roofs.length; c++) {
                out += x.of(c, 1);
                fell += x.of(c, 2);
            }
            int[] due = {s.year, s.roofs.length, s.bytes, s.choices, s.acts, out, fell, s.readings};
            for (int what = 0; what < 8; what++) {
                DUE.is("scene " + scene + ": count(" + what + ")", x.count(what), due[what]);
            }
            for (int what : new int[] {8, 9, 10, 18, 19, -1, -9, -11, MIN, MAX, MIN + 11, 1 << 30}) {
                DUE.is("count(" + what + ")", x.count(what), -9);
            }
            DUE.is("count(15)", x.count(15), 0);
            for (int what = 11; what <= 17; what++) {
                DUE.is("scene " + scene + ": count(" + what + ")", x.count(what), 0);
            }
        }
    }

    private static void outAndFallenAreTakenBack() {
        SaltRooms x = Due.rooms("d930");
        x.cavern(5, 10, 13);
        x.cavern(500, 10, 13);
        int first = x.step(0, 50);
        int fell = x.count(6);
        int second = x.step(1, 99);
        DUE.is("OUT of both", x.count(5), first + second);
        DUE.is("fell of both", x.count(6), fell + x.of(1, 2));
        x.undo();
        DUE.is("OUT of one", x.count(5), first);
        DUE.is("fell of one", x.count(6), fell);
        x.undo();
        DUE.is("OUT of none", x.count(5) + x.count(6), 0);
    }

    /** Each REFUSAL is counted by its own number, and -5 by none. */
    private static void refusalsOfEachNumber() {
        SaltRooms x = new Scenes(Scenes.FEW).make();
        int[] due = new int[8];
        for (int i = 1; i <= 10; i++) {
            DUE.is("-1", x.bed(30), -1);
            due[1]++;
            if (i % 2 == 0) {
                DUE.is("-2", x.of(0, 15), -2);
                due[2]++;
            }
            if (i % 3 == 0) {
                DUE.is("-3", x.mend(0), -3);
                due[3]++;
            }
            if (i % 4 == 0) {
                DUE.is("-4", x.years(0), -4);
                due[4]++;
            }
            if (i % 5 == 0) {
                DUE.is("-6", x.years(21), -6);
                due[6]++;
            }
            DUE.is("-7", x.step(0, 99), -7);
            due[7]++;
            for (int k = 1; k < 8; k++) {
                DUE.is("count(" + (10 + k) + ")", x.count(10 + k), due[k]);
            }
        }
        // Where answers may be below 0.
        DUE.is("a wall's -1", x.wall(0, 0, 5), -1000000001);
        DUE.is("BOUNDS' -1", x.bounds(0, 9, 0), -1000000001);
        DUE.is("BOUNDS' -2", x.bounds(0, 5, 2), -1000000002);
        DUE.is("count(11)", x.count(11), due[1] + 2);
        DUE.is("count(12)", x.count(12), due[2] + 1);
    }

    /** "An object is used for at most 512 calls": refused ones and others, to the last of them. */
    private static void calls512() {
        SaltRooms x = new SaltRooms();
        for (int i = 1; i <= 511; i++) {
            DUE.is("undo", x.undo(), -3);
        }
        DUE.is("the 512th", x.count(13), 511);
        SaltRooms y = three();
        for (int i = 1; i <= 510; i++) {
            DUE.is("STEP " + i, y.step(0, 99), 202);
        }
        DUE.is("the 512th", y.of(0, 1), 510 * 202);
    }
}

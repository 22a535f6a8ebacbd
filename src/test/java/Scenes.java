/** Rooms for tests of REFUSALS, and what is so in them as the document tells it. */
final class Scenes {
    /** Nothing; two planned CAVERNS; one CAVERN of each STATE; all that can be full is full. */
    static final int EMPTY = 0;
    static final int FEW = 1;
    static final int STATES = 2;
    static final int FULL = 3;
    static final int MANY = 4;

    final int scene;
    final int year;
    final int bytes;
    final int choices;
    final int readings;
    final int acts;
    // Of each CAVERN: its first and last LEVEL, the lowest that is not FULL, its STATE, the number of the CUT one ..
    final int[] roofs;
    final int[] bottoms;
    final int[] lowests;
    final int[] states;
    final int cut;
    final int[] rooms;
    final int[] oils;
    final int[] gases;
    final int[] tests;

    Scenes(int scene) {
        this.scene = scene;
        year = new int[] {0, 41, 1, 60}[scene];
        bytes = new int[] {0, 0, 53, 60}[scene];
        choices = new int[] {0, 1, 4, 5}[scene];
        readings = new int[] {0, 1, 39, 40}[scene];
        acts = new int[] {0, 0, 2, 200}[scene];
        cut = scene == STATES ? 1 : -1;
        roofs = new int[][] {{}, {4, 6}, {10, 4, 6, 2, 2}, {10, 11, 12, 13, 14}}[scene];
        bottoms = new int[][] {{}, {6, 9}, {13, 7, 8, 3, 3}, {12, 11, 12, 13, 14}}[scene];
        lowests = new int[][] {{}, {6, 9}, {11, 7, 8, 3, 3}, {12, 11, 12, 13, 14}}[scene];
        states = new int[][] {{}, {0, 0}, {1, 1, 2, 3, 4}, {2, 0, 0, 0, 0}}[scene];
        rooms = new int[][] {{}, {3, 4}, {19, 199, 1200, 2, 2}, {205, 1, 1, 1, 1}}[scene];
        oils = new int[][] {{}, {0, 0}, {0, 0, 600, 0, 0}, {30, 0, 0, 0, 0}}[scene];
        gases = new int[][] {{}, {0, 0}, {0, 0, 1200, 0, 0}, {500, 0, 0, 0, 0}}[scene];
        tests = new int[][] {{}, {0, 0}, {0, 5, 0, 0, 0}, {6, 6, 0, 0, 0}}[scene];
    }

    boolean has(int cavern) {
        return cavern >= 0 && cavern < roofs.length;
    }

    boolean has(int cavern, int level) {
        return has(cavern) && level >= roofs[cavern] && level <= bottoms[cavern];
    }

    boolean open(int cavern, int level) {
        return has(cavern, level) && level <= lowests[cavern];
    }

    /** Planned or washed. */
    boolean washable(int cavern) {
        return states[cavern] < 2;
    }

    SaltRooms make() {
        switch (scene) {
            case EMPTY:
                return new SaltRooms();
            case FEW:
                return few();
            case STATES:
                return states();
            default:
                return full();
        }
    }

    /** The wall at LEVEL 6 is just 10, as PILLARS asks; the second CAVERN's STRING does not wash it. */
    private static SaltRooms few() {
        SaltRooms x = new SaltRooms();
        x.cavern(100, 4, 6);
        x.cavern(112, 6, 9);
        x.string(1, 9, 8, 7);
        x.years(20);
        x.years(20);
        x.years(1);
        x.choice(6, 6, 99);
        x.reading(0, 5, 7, 2);
        return x;
    }

    /** 0 is washed, its RINGS 12 and 13 FULL; 1 is washed and CUT; 2 is kept; 3 is shut; 4 is given up. */
    private static SaltRooms states() {
        SaltRooms x = Due.rooms("s10d920");
        x.years(1);
        x.cavern(100, 10, 13);
        x.string(0, 13, 11, 10);
        x.step(0, 50);
        x.law(0, 99);
        Build.reaching(x, 300, 4, 7, 7, 1, 10);
        Build.cavern(x, 500, 6, 400, 400, 400);
        x.cavern(700, 2, 3);
        x.cavern(900, 2, 3);
        x.string(1, 7, 7, 7);
        x.fall(1, 6);
        x.close(3);
        x.giveUp(4);
        Due.feed(x, "s1s1s1s1s1s1s1s1s1s1s1s1s1s1s1s1s1s1s1s1s1s1s1s1s1s1s");
        for (int i = 0; i < 4; i++) {
            x.choice(i, 3, 50);
        }
        for (int i = 0; i < 39; i++) {
            x.reading(1, 5, i, 2);
        }
        for (int i = 0; i < 5; i++) {
            x.test(1, 2, 2 * i, 9, -1, 1);
        }
        x.fill(2, false, 600, true);
        x.fill(2, true, 1200, true);
        return x;
    }

    /** 0 has 30 LOTS of two OWNERS, the last of OWNER 1, and OWNER 2 is told; the STRING of 1 was told often. */
    private static SaltRooms full() {
        SaltRooms x = new SaltRooms();
        for (int i = 0; i < 3; i++) {
            x.years(20);
        }
        x.cavern(100, 10, 12);
        for (int i = 1; i < 5; i++) {
            x.cavern(100 + 200 * i, 10 + i, 10 + i);
        }
        x.step(0, 99);
        for (int i = 0; i < 30; i++) {
            x.owner(i % 2);
            x.fill(0, false, 1, true);
        }
        x.owner(2);
        x.fill(0, true, 500, true);
        for (int i = 0; i < 180; i++) {
            x.string(1, 11, 11, 11);
        }
        Due.feed(x, "s1s1s1s1s1s1s1s1s1s1s1s1s1s1s1s1s1s1s1s1s1s1s1s1s1s1s1s1s1s1");
        for (int i = 0; i < 5; i++) {
            x.choice(11, 11, 50 + i);
        }
        for (int i = 0; i < 40; i++) {
            x.reading(0, 10 + i % 3, 30, i);
        }
        for (int i = 0; i < 6; i++) {
            x.test(0, 2, 20, 9, -1, 1);
            x.test(1, 3, 90, 5, -2, 1);
        }
        return x;
    }
}

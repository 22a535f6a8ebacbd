/** Makes rooms of told SIZES, for tests. */
final class Build {
    private Build() {
    }

    /** A new object in which a STEP of n takes n - 1 from the first RING that it meets. */
    static SaltRooms strong() {
        SaltRooms x = new SaltRooms();
        x.law(0, 99);
        return x;
    }

    /** Makes a RING grow without a refused call; the object is strong and its BEDS are salt. */
    private static void grow(SaltRooms x, int cavern, int level, boolean roof, int amount) {
        int most = roof ? 49 : 98;
        int water = x.of(cavern, 12);
        int brine = x.of(cavern, 13);
        int oil = x.of(cavern, 14);
        x.string(cavern, level, level, level);
        for (int left = amount; left > 0; left -= most) {
            int part = Math.min(left, most);
            if (x.step(cavern, (roof ? 2 * part : part) + 1) != part) {
                throw new IllegalStateException("a ring does not grow as told");
            }
        }
        x.string(cavern, water, brine, oil);
    }

    /** A CAVERN whose RINGS, from the ROOF down, have these SIZES. */
    static int cavern(SaltRooms x, int place, int roof, int... sizes) {
        int number = x.cavern(place, roof, roof + sizes.length - 1);
        for (int i = 0; i < sizes.length; i++) {
            grow(x, number, roof + i, i == 0, sizes[i] - 1);
        }
        return number;
    }

    /** The same with REACHES. */
    static int reaching(SaltRooms x, int place, int roof, int... reaches) {
        int[] sizes = new int[reaches.length];
        for (int i = 0; i < sizes.length; i++) {
            sizes[i] = reaches[i] * reaches[i];
        }
        return cavern(x, place, roof, sizes);
    }
}

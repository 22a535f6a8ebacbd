/** All that calls tell of an object, also what is told to it: as a text. It makes no refused call and changes nothing. */
final class Whole {
    private Whole() {
    }

    static String of(SaltRooms x) {
        StringBuilder all = new StringBuilder(Sight.of(x));
        all.append('\n').append(x.count(4)).append(' ');
        laws(x, all);
        settings(x, all);
        shape(x, all);
        int owner = x.owner(0);
        x.owner(owner);
        int spread = x.spread(0);
        all.append(owner).append(' ').append(spread).append(' ');
        x.spread(spread);
        for (int mark = 0; mark < 1000; mark += 100) {
            all.append(x.sinks(mark)).append(' ');
        }
        return all.toString();
    }

    private static void laws(SaltRooms x, StringBuilder all) {
        for (int k = 0; k < 10; k++) {
            int was = x.law(k, 0);
            x.law(k, was);
            all.append(was).append(' ');
        }
    }

    private static void settings(SaltRooms x, StringBuilder all) {
        int[] harmless = {0, 99, 0, 1};
        for (int what = 0; what < 4; what++) {
            int was = x.set(what, harmless[what]);
            x.set(what, was);
            all.append(was).append(' ');
        }
    }

    private static void shape(SaltRooms x, StringBuilder all) {
        for (int level = 0; level < 30; level++) {
            int was = x.aim(level, 0);
            x.aim(level, was);
            all.append(was).append(' ');
        }
        for (int day = 0; day < 12; day++) {
            int was = x.need(day, 0);
            x.need(day, was);
            all.append(was).append(' ').append(x.given(day)).append(' ').append(x.proof(day)).append(' ');
        }
        for (int c = 0; c < x.count(1); c++) {
            int was = x.gives(c, 0);
            x.gives(c, was);
            all.append(was).append(' ');
        }
    }
}

/** All that calls tell of an object without changing it, as a text. */
final class Sight {
    private Sight() {
    }

    /** What an object tells; the number of ACTS is not in it. It makes no refused call. */
    static String of(SaltRooms x) {
        StringBuilder all = new StringBuilder();
        int caverns = x.count(1);
        for (int what = 0; what <= 7; what++) {
            if (what != 4) {
                all.append(x.count(what)).append(' ');
            }
        }
        for (int level = 0; level < 30; level++) {
            all.append(x.bed(level)).append(' ');
        }
        for (int owner = 0; owner < 6; owner++) {
            all.append(x.has(owner, -1, true)).append(' ');
        }
        for (int i = 0; i < caverns; i++) {
            ofCavern(x, i, all.append('\n'));
        }
        return all.toString();
    }

    private static void ofCavern(SaltRooms x, int cavern, StringBuilder all) {
        for (int what = 0; what <= 14; what++) {
            all.append(x.of(cavern, what)).append(' ');
        }
        for (int owner = 0; owner < 6; owner++) {
            all.append(x.has(owner, cavern, false)).append(' ');
        }
        int rings = x.hidden(cavern, 0);
        for (int level = 0; level < 30; level++) {
            if ((rings >> level & 1) == 1) {
                for (int what = 0; what < 4; what++) {
                    all.append(x.ring(cavern, level, what)).append(' ');
                }
                for (int what = 0; what < 2; what++) {
                    all.append(x.bounds(cavern, level, what)).append(' ');
                }
            }
        }
        all.append(x.leak(cavern, 0)).append(' ').append(x.leak(cavern, 1));
        all.append(' ').append(x.quarrel(cavern)).append(' ').append(x.near(cavern, 0));
    }
}

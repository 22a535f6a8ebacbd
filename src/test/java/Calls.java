/** Any of the calls, with numbers from dice. */
final class Calls {
    static final int KINDS = 42;
    private static final String[] TEXTS = {
        "s30", "h30", "d930", "d530", "(s2d41)1s27", "((s1d52)2h1)4s2",
        "s10h5d510s5", "(d13d93)5", "((((", "s31", "()", "d0", "s3h", "(s5)7"
    };

    private Calls() {
    }

    static boolean changes(int kind) {
        return kind < 22;
    }

    /** Makes one call; those of a kind below 22 may change what is told. */
    static int make(SaltRooms x, int kind, Dice d) {
        int c = d.about(0, Math.max(0, Math.min(4, x.count(1) - 1)));
        int level = d.about(0, 29);
        return kind < 22 ? change(x, kind, d, c, level) : ask(x, kind, d, c, level);
    }

    private static int change(SaltRooms x, int kind, Dice d, int c, int level) {
        switch (kind) {
            case 0:
                return Due.feed(x, TEXTS[d.from(0, TEXTS.length - 1)]);
            case 1:
                return x.beds();
            case 2:
                int a = d.from(0, 29);
                return x.cavern(d.about(0, 999), a, d.about(a, Math.min(29, a + d.from(0, 8))));
            case 3:
                int[] hung = new int[3];
                for (int i = 0; i < 3; i++) {
                    hung[i] = d.one(30) ? level : ringOf(x, c, d);
                }
                return x.string(c, hung[0], hung[1], hung[2]);
            case 4:
                return x.law(d.about(0, 9), d.about(0, 99));
            case 5:
                return x.step(c, d.about(1, 99));
            case 6:
                return x.years(d.one(10) ? d.about(1, 20) : 1);
            case 7:
                int what = d.about(0, 3);
                return x.set(what, what == 2 ? d.from(0, 20) : d.one(2) ? d.from(1, 4) : d.about(0, 99));
            case 8:
                return x.fill(c, false, d.one(9) ? d.about(1, 99999) : d.from(1, 60), !d.one(3));
            case 9:
                return x.fill(c, true, d.one(9) ? d.about(1, 99999) : d.from(1, 900), !d.one(3));
            case 10:
                return x.owner(d.about(0, 5));
            case 11:
                return x.spread(d.about(0, 999));
            case 12:
                return d.one(6) ? x.close(c) : 0;
            case 13:
                return d.one(6) ? x.giveUp(c) : 0;
            case 14:
                return x.fall(c, ringOf(x, c, d));
            case 15:
                return x.mend(c);
            case 16:
                return x.reading(c, ringOf(x, c, d), d.about(0, 999) % 30, d.about(0, 99) % 20);
            case 17:
                int least = d.about(-99, 99);
                return x.test(c, d.about(1, 99), d.about(0, 9999), d.about(0, 99), least, d.about(-99, 99));
            case 18:
                return x.need(d.about(0, 11), d.about(0, 999));
            case 19:
                return x.gives(c, d.about(0, 999));
            case 20:
                return d.one(3) ? x.aim(level, d.about(0, 99999)) : x.aim(ringOf(x, c, d), d.from(0, 400));
            default:
                return d.one(20) ? x.noChoices() : x.choice(ringOf(x, c, d), ringOf(x, c, d), d.about(1, 99));
        }
    }

    private static int ask(SaltRooms x, int kind, Dice d, int c, int level) {
        switch (kind) {
            case 22:
                return x.bed(level);
            case 23:
                return x.half(c, d.about(1, 99) / 2 * 2);
            case 24:
                return x.ring(c, ringOf(x, c, d), d.about(0, 3));
            case 25:
                return x.of(c, d.about(0, 14));
            case 26:
                return x.between(c, ringOf(x, c, d), d.about(0, 60), d.one(2));
            case 27:
                return x.has(d.about(0, 5), d.about(-1, 4), d.one(2));
            case 28:
                return x.sinks(d.about(-1, 999));
            case 29:
                return x.breach(c, d.one(2));
            case 30:
                return x.wall(c, d.about(0, 4), ringOf(x, c, d));
            case 31:
                return x.near(c, d.about(0, 1));
            case 32:
                return x.hidden(c, d.about(0, 1 << 30));
            case 33:
                return x.bounds(c, ringOf(x, c, d), d.about(0, 1));
            case 34:
                return x.quarrel(c);
            case 35:
                return x.nextEcho(c, d.about(0, 40));
            case 36:
                return x.leak(c, d.about(0, 1));
            case 37:
                return x.howLong(d.about(0, 999), d.about(0, 999), d.about(0, 9999));
            case 38:
                return x.given(d.about(-1, 11));
            case 39:
                return x.proof(d.about(0, 11));
            case 40:
                return x.plan(c, d.about(1, 3), d.about(0, 5));
            default:
                return x.count(d.about(0, 17));
        }
    }

    /** Mostly a LEVEL that a CAVERN has. */
    private static int ringOf(SaltRooms x, int cavern, Dice d) {
        if (cavern < 0 || cavern >= x.count(1) || d.one(20)) {
            return d.about(0, 29);
        }
        int bits = x.hidden(cavern, 0);
        int roof = Integer.numberOfTrailingZeros(bits);
        return d.from(roof, roof + Integer.bitCount(bits) - 1);
    }
}

/** Counts the calls whose answer is due and tells those whose answer is not. */
final class Due {
    private final String name;
    private int right;
    private int wrong;

    Due(String name) {
        this.name = name;
    }

    void is(String call, long got, long want) {
        if (got == want) {
            right++;
            return;
        }
        wrong++;
        if (wrong <= 40) {
            System.out.println(name + ": " + call + " answered " + got + ", due is " + want);
        }
    }

    /** Tells how many were right and ends the program with 1 if one was not. */
    void end() {
        System.out.println(name + ": " + right + " passed, " + wrong + " failed");
        if (wrong > 0 || right == 0) {
            System.exit(1);
        }
    }

    /** Feeds a TEXT, eight bytes at a time: the last answer. */
    static int feed(SaltRooms x, String text) {
        int last = 0;
        for (int from = 0; from < text.length(); from += 8) {
            int n = Math.min(8, text.length() - from);
            long bytes = 0;
            for (int i = n - 1; i >= 0; i--) {
                bytes = bytes << 8 | text.charAt(from + i) & 255;
            }
            last = x.feed(n, bytes);
        }
        return last;
    }

    /** A new object whose BEDS a TEXT told. */
    static SaltRooms rooms(String text) {
        SaltRooms x = new SaltRooms();
        feed(x, text);
        if (x.beds() != 30) {
            throw new IllegalStateException("a text with a fault: " + text);
        }
        return x;
    }
}

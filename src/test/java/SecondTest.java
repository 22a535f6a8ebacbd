import java.lang.reflect.InvocationTargetException;
import java.lang.reflect.Method;
import java.lang.reflect.Modifier;
import java.util.Arrays;
import java.util.HashMap;
import java.util.Map;
import java.util.TreeMap;

/** Runs of 512 calls of any kind, answered by the class and by the document's second writing alike. */
public final class SecondTest {
    private static final Due DUE = new Due("SecondTest");
    private static final int RUNS = 400;
    // So many of TEXTS, the first, have no FAULT.
    private static final int GOOD_TEXTS = 9;
    private static final int TEXT_RUNS = 3000;
    // Parts of TEXTS: mostly such that the next may stand behind them.
    private static final String[] PARTS = {
        "s1", "s2", "s3", "h1", "h2", "d11", "d92", "d53", "(", "(", "(", ")1", ")2", ")3", ")2", "s10", "h7", "d910",
        "s30", "s29", "s0", "s31", "d0", "d1", "h", "s", ")", "0", "7", "12", "((", "))2", "x", "s99", "(s1)3", "\u00e9"
    };
    private static final String[] TEXTS = {
        "s30", "s30", "d930", "d530", "(s2d41)1s27", "((s1d52)2h1)4s2", "s10h5d510s5", "(d13d93)5", "(s1d8(d91h1)2s1)5",
        "((((", "s31", "()", "d0", "s3h", "(s5)7", "((s3)2)5", "(((s1)2)3)5", "s030", "s299", "s29)", "s30s1", "(s1", "x"
    };
    // How often each call is made beside the others; one that is not here, 2.
    private static final Map<String, Integer> WEIGHTS = new HashMap<>();
    private static final Map<String, Method> SECOND = new HashMap<>();
    private static final Map<String, Integer> ANSWERED = new TreeMap<>();
    private static final Map<String, Integer> REFUSED = new TreeMap<>();
    private static Method[] calls;
    private static int told30;

    public static void main(String[] args) throws IllegalAccessException, InvocationTargetException {
        tell();
        for (int run = 0; run < RUNS; run++) {
            run(run);
        }
        for (int run = 0; run < TEXT_RUNS; run++) {
            texts(run);
        }
        for (Method call : calls) {
            String name = call.getName();
            DUE.is(name + " was answered", ANSWERED.getOrDefault(name, 0) > 20 ? 1 : 0, 1);
            boolean never = name.equals("noChoices") || name.equals("count");
            DUE.is(name + " was refused", REFUSED.getOrDefault(name, 0) > 0 || never ? 1 : 0, 1);
        }
        DUE.is("texts without a fault", told30 > 300 ? 1 : 0, 1);
        DUE.end();
    }

    private static void tell() {
        String[] often = {"string", "step", "fill", "ring", "of", "undo", "fall", "years", "reading"};
        int[] weights = {8, 20, 10, 8, 12, 4, 6, 3, 4};
        for (int i = 0; i < often.length; i++) {
            WEIGHTS.put(often[i], weights[i]);
        }
        WEIGHTS.put("noChoices", 1);
        for (Method method : Second.class.getDeclaredMethods()) {
            SECOND.put(method.getName() + Arrays.toString(method.getParameterTypes()), method);
        }
        calls = Arrays.stream(SaltRooms.class.getDeclaredMethods())
                .filter(m -> Modifier.isPublic(m.getModifiers()))
                .sorted((a, b) -> a.getName().compareTo(b.getName())).toArray(Method[]::new);
    }

    private static void run(int run) throws IllegalAccessException, InvocationTargetException {
        Dice d = new Dice(run + 90000);
        SaltRooms x = new SaltRooms();
        Second y = new Second();
        StringBuilder told = new StringBuilder();
        // Some runs wash much, some keep, some are of all kinds; ends of a life come seldom.
        int taste = d.from(0, 3);
        String text = TEXTS[d.from(0, GOOD_TEXTS - 1)];
        for (int i = 0; i < text.length(); i++) {
            DUE.is("feed", x.feed(1, text.charAt(i)), y.feed(1, text.charAt(i)));
        }
        for (int i = text.length(); i < 512 - 18; i++) {
            Method call = any(d, taste, i);
            Object[] numbers = new Arguments(d, y, taste, i).of(call.getName());
            int got = (int) call.invoke(x, numbers);
            int want = second(y, call, numbers);
            told.append(call.getName()).append(Arrays.toString(numbers)).append(' ');
            DUE.is("run " + run + ", call " + i + ", " + call.getName() + Arrays.toString(numbers), got, want);
            boolean refused = want < 0 && want > -8 || want <= -1000000001;
            (refused ? REFUSED : ANSWERED).merge(call.getName(), 1, Integer::sum);
            if (got != want) {
                System.out.println(told);
                return;
            }
        }
        for (int what = 0; what <= 17; what++) {
            DUE.is("run " + run + ", count(" + what + ")", x.count(what), y.count(what));
        }
    }

    private static Method any(Dice d, int taste, int at) {
        Method call;
        do {
            call = calls[d.from(0, calls.length - 1)];
        } while (d.from(1, 20) > weight(call.getName(), taste, at));
        return call;
    }

    /** A TEXT of any parts, and behind it each count that may be its last. */
    private static void texts(int run) {
        Dice d = new Dice(run + 400000);
        StringBuilder made = new StringBuilder();
        for (int i = d.from(0, 12); i > 0; i--) {
            made.append(PARTS[d.from(0, d.one(3) ? PARTS.length - 1 : 19)]);
        }
        for (int count = 0; count <= 30; count++) {
            String text = made + (count == 0 ? "" : "s" + count);
            if (text.length() > 60) {
                return;
            }
            SaltRooms x = new SaltRooms();
            Second y = new Second();
            Due.feed(x, text);
            for (int i = 0; i < text.length(); i++) {
                y.feed(1, text.charAt(i));
            }
            int want = y.beds();
            DUE.is("beds of " + text, x.beds(), want);
            for (int level = 0; level < 30; level++) {
                DUE.is("bed " + level + " of " + text, x.bed(level), y.bed(level));
            }
            told30 += want == 30 ? 1 : 0;
        }
    }

    private static int weight(String name, int taste, int at) {
        boolean early = name.equals("feed") || name.equals("beds") || name.equals("cavern");
        if (early) {
            return at < 30 ? 20 : 1;
        }
        if (name.equals("close") || name.equals("giveUp")) {
            return taste == 3 || at > 400 ? 1 : 0;
        }
        if (name.equals("fill") && (taste == 1 || at < 150 && taste == 2)) {
            return 0;
        }
        return WEIGHTS.getOrDefault(name, 2);
    }

    private static int second(Second y, Method call, Object[] numbers) throws IllegalAccessException,
            InvocationTargetException {
        Method other = SECOND.get(call.getName() + Arrays.toString(call.getParameterTypes()));
        try {
            return (int) other.invoke(y, numbers);
        } catch (InvocationTargetException thrown) {
            if (!(thrown.getCause() instanceof RuntimeException)) {
                throw thrown;
            }
            boolean far = call.getName().equals("wall") || call.getName().equals("bounds");
            return y.refuse((RuntimeException) thrown.getCause(), far);
        }
    }

    /** Numbers for a call, mostly such that it is not refused. */
    private static final class Arguments {
        private final Dice d;
        private final Second y;
        private final int taste;
        private final int at;
        private final int cavern;

        Arguments(Dice d, Second y, int taste, int at) {
            this.d = d;
            this.y = y;
            this.taste = taste;
            this.at = at;
            int most = Math.max(0, y.count(1) - 1);
            // The first CAVERN is the one that most happens to.
            cavern = d.one(2) && most > 0 ? d.about(0, most) : d.one(30) ? d.about(0, 4) : 0;
        }

        Object[] of(String name) {
            switch (name) {
                case "feed":
                    return feed();
                case "cavern":
                    int a = d.one(3) ? d.from(0, 29) : d.from(3, 9);
                    return new Object[] {d.one(2) ? d.about(0, 999) : d.about(0, 120), a,
                        d.about(a, Math.min(29, a + d.from(0, 9)))};
                case "string":
                    return new Object[] {cavern, ring(), ring(), d.one(3) ? ring() : roof()};
                case "law":
                    return new Object[] {d.about(0, 9), d.about(0, 99)};
                case "step":
                    return new Object[] {cavern, d.one(2) ? 99 : d.about(1, 99)};
                case "half":
                    return new Object[] {cavern, d.one(9) ? d.about(1, 99) : 2 * d.from(1, 49)};
                case "ring":
                    return new Object[] {cavern, ring(), d.about(0, 3)};
                case "of":
                    return new Object[] {cavern, d.about(0, 14)};
                case "years":
                    return new Object[] {d.one(9) ? d.about(1, 20) : 1};
                case "set":
                    return set();
                case "between":
                    return new Object[] {cavern, ring(), d.about(0, 60), d.one(2)};
                case "fill":
                    return fill();
                case "has":
                    return new Object[] {d.about(0, 5), d.about(-1, 4), d.one(2)};
                case "breach":
                    return new Object[] {cavern, d.one(2)};
                case "wall":
                    return new Object[] {cavern, d.about(0, Math.max(0, y.count(1) - 1)), ring()};
                case "fall":
                    return new Object[] {cavern, shelf()};
                case "hidden":
                    return new Object[] {cavern, d.one(3) ? d.about(0, 1 << 30) : 1 << (ring() & 31)};
                case "reading":
                    return new Object[] {cavern, ring(), d.one(9) ? d.about(0, 999) : d.from(5, 15), d.about(0, 9)};
                case "test":
                    return test();
                default:
                    return rest(name);
            }
        }

        private Object[] rest(String name) {
            switch (name) {
                case "bed":
                    return new Object[] {d.about(0, 29)};
                case "owner":
                    return new Object[] {d.about(0, 5)};
                case "spread":
                    return new Object[] {d.about(0, 999)};
                case "sinks":
                    return new Object[] {d.about(-1, 999)};
                case "near":
                case "leak":
                    return new Object[] {cavern, d.about(0, 1)};
                case "bounds":
                    return new Object[] {cavern, ring(), d.about(0, 1)};
                case "nextEcho":
                    return new Object[] {cavern, d.one(9) ? d.about(0, 999) : d.from(0, 12)};
                case "howLong":
                    return new Object[] {d.about(0, 999), d.about(0, 999), d.about(0, d.one(2) ? 999 : 9999)};
                case "need":
                    return new Object[] {d.about(0, 11), d.one(9) ? d.about(0, 999) : d.from(0, 60)};
                case "gives":
                    return new Object[] {cavern, d.one(9) ? d.about(0, 999) : d.from(0, 30)};
                case "given":
                    return new Object[] {d.about(-1, 11)};
                case "proof":
                    return new Object[] {d.about(0, 11)};
                case "aim":
                    return new Object[] {d.one(3) ? d.about(0, 29) : ring(), d.one(9) ? d.about(0, 99999) : d.from(0, 900)};
                case "choice":
                    return new Object[] {ring(), ring(), d.about(1, 99)};
                case "plan":
                    return new Object[] {cavern, d.one(30) ? d.about(1, 5) : d.about(1, 3), d.about(0, 5)};
                case "count":
                    return new Object[] {d.about(0, 17)};
                case "beds":
                case "noChoices":
                case "undo":
                    return new Object[0];
                default:
                    // close, giveUp, mend, quarrel
                    return new Object[] {cavern};
            }
        }

        private boolean told() {
            return cavern >= 0 && cavern < y.count(1);
        }

        private int roof() {
            return told() ? Integer.numberOfTrailingZeros(y.hidden(cavern, 0)) : 0;
        }

        /** Mostly a LEVEL that the CAVERN has. */
        private int ring() {
            int bits = told() ? y.hidden(cavern, 0) : 1;
            return d.one(25) ? d.about(0, 29) : d.from(roof(), roof() + Integer.bitCount(bits) - 1);
        }

        /** A RING that is a SHELF, if there is one. */
        private int shelf() {
            for (int i = 0; told() && i < 30 && !d.one(12); i++) {
                int level = (at + 7 * i) % 30;
                if ((y.hidden(cavern, 0) >> level & 1) == 1 && y.ring(cavern, level, 3) == 1) {
                    return level;
                }
            }
            return ring();
        }

        private Object[] feed() {
            if (d.one(2)) {
                return new Object[] {d.about(1, 8), ((long) d.from(0, Integer.MAX_VALUE) << 33) + d.about(0, 1 << 30)};
            }
            String text = TEXTS[d.from(0, TEXTS.length - 1)];
            int n = Math.min(8, text.length());
            long bytes = d.one(2) ? -1L << 8 * n - 1 : 0;
            for (int i = n - 1; i >= 0; i--) {
                bytes = bytes << 8 | text.charAt(i);
            }
            return new Object[] {n, bytes};
        }

        private Object[] set() {
            int what = d.about(0, 3);
            int v = what == 2 ? d.from(0, 20) : what == 3 ? d.from(1, 4) : what == 1 ? d.from(1, 99) : d.from(0, 60);
            return new Object[] {what, d.one(9) ? d.about(0, 99) : v};
        }

        private Object[] fill() {
            boolean gas = d.one(2);
            boolean in = !d.one(3);
            int room = told() ? Math.max(1, y.of(cavern, 4)) : 1;
            int few = gas ? room * (taste + 1) : Math.max(1, room / 9);
            if (told() && gas && d.one(3)) {
                // Near the marks of PUSH.
                int most = (y.of(cavern, 9) + 1) * Math.max(1, room - y.of(cavern, 6));
                few = Math.max(1, Math.abs(d.one(2) ? most - y.of(cavern, 7) : y.of(cavern, 7) - y.of(cavern, 10)));
                return new Object[] {cavern, true, few + d.from(-1, 1), in};
            }
            int edge = Math.max(1, in ? room - 1 - (told() ? y.of(cavern, 6) : 0) : told() ? y.of(cavern, 6) : 1);
            int n = d.one(9) ? d.about(1, 99999) : !gas && d.one(6) ? edge + d.from(-1, 1) : d.from(1, few);
            return new Object[] {cavern, gas, n, in};
        }

        private Object[] test() {
            int a = d.one(4) ? d.about(-99, 99) : d.from(-3, 2);
            int b = d.one(4) ? d.about(-99, 99) : a + d.from(0, 5);
            int days = d.one(3) ? d.about(1, 99) : d.from(1, 9);
            int fell = d.one(4) ? d.about(0, 9999) : Math.abs(days * 20 + d.from(-9, 9));
            return new Object[] {cavern, days, fell, d.one(3) ? d.about(0, 99) : d.from(0, 12), a, b};
        }
    }
}

import java.util.ArrayList;

/** Runs of any calls: none throws, asking and refused calls change nothing, and what is UNDONE is undone. */
public final class AnyCallsTest {
    private static final Due DUE = new Due("AnyCallsTest");
    private static final int RUNS = 150;
    private static final int CALLS = 400;
    private static final int UNDO = Calls.KINDS;

    public static void main(String[] args) {
        for (int run = 0; run < RUNS; run++) {
            anyRun(run);
            sameAnswersAgain(run);
        }
        farNumbers();
        DUE.end();
    }

    private static void anyRun(int run) {
        Dice d = new Dice(run);
        SaltRooms x = start(d);
        // What was to be seen ahead of each ACT that may be UNDONE.
        ArrayList<String> ahead = new ArrayList<>();
        for (int i = 0; i < CALLS; i++) {
            int kind = kindOf(d);
            String before = Sight.of(x);
            int acts = x.count(4);
            int refusals = refusalsOf(x);
            int answer = kind == UNDO ? x.undo() : Calls.make(x, kind, d);
            boolean refused = refusalsOf(x) > refusals;
            String after = Sight.of(x);
            String name = "run " + run + ", call " + i + " of kind " + kind;
            if (kind == UNDO) {
                DUE.is(name + ": is refused with no ACTS", refused ? 1 : 0, acts == 0 ? 1 : 0);
                if (acts > 0) {
                    DUE.is(name + ": undo", answer, 1);
                    DUE.is(name + ": as before", after.equals(ahead.remove(ahead.size() - 1)) ? 1 : 0, 1);
                    DUE.is(name + ": one less", x.count(4), acts - 1);
                }
                continue;
            }
            if (refused && kind != 0 || !Calls.changes(kind)) {
                DUE.is(name + ": nothing changed", after.equals(before) ? 1 : 0, 1);
                DUE.is(name + ": as many ACTS", x.count(4), acts);
                continue;
            }
            follow(name, kind, x, acts, before, after, ahead);
        }
    }

    private static void follow(String name, int kind, SaltRooms x, int acts, String before, String after,
            ArrayList<String> ahead) {
        boolean act = kind == 3 || kind == 5 || kind == 8 || kind == 9;
        boolean forgets = kind == 2 || kind == 6 || kind == 14;
        if (act) {
            DUE.is(name + ": an ACT", x.count(4), Math.min(acts + 1, 200));
            ahead.add(before);
        } else if (forgets || (kind == 12 || kind == 13) && !after.equals(before)) {
            DUE.is(name + ": all forgotten", x.count(4), 0);
            ahead.clear();
        } else {
            DUE.is(name + ": as many ACTS", x.count(4), acts);
            if (!after.equals(before)) {
                // What is told beside ACTS stays when they are UNDONE; this test looks no further back.
                for (int i = x.count(4); i > 0; i--) {
                    x.undo();
                }
                ahead.clear();
            }
        }
    }

    private static int kindOf(Dice d) {
        if (d.one(3)) {
            return d.one(2) ? 5 : d.one(2) ? 3 : 8 + d.from(0, 1);
        }
        return d.one(8) ? UNDO : d.one(30) || !d.one(6) ? d.from(14, Calls.KINDS - 1) : d.from(0, 13);
    }

    private static SaltRooms start(Dice d) {
        SaltRooms x = new SaltRooms();
        if (!d.one(3)) {
            Calls.make(x, 0, d);
            x.beds();
        }
        if (d.one(2)) {
            x.set(3, 1);
            x.set(1, 60);
            x.set(0, d.from(0, 60));
        }
        for (int i = d.from(1, 4); i > 0; i--) {
            Calls.make(x, 2, d);
        }
        return x;
    }

    private static int refusalsOf(SaltRooms x) {
        int sum = 0;
        for (int what = 11; what <= 17; what++) {
            sum += x.count(what);
        }
        return sum;
    }

    private static void sameAnswersAgain(int run) {
        Dice d = new Dice(run + 5000);
        Dice e = new Dice(run + 5000);
        SaltRooms x = start(d);
        SaltRooms y = start(e);
        for (int i = 0; i < 100; i++) {
            int kind = kindOf(d);
            kindOf(e);
            int one = kind == UNDO ? x.undo() : Calls.make(x, kind, d);
            int other = kind == UNDO ? y.undo() : Calls.make(y, kind, e);
            DUE.is("the same calls, the same answers", one, other);
        }
    }

    private static void farNumbers() {
        int[] far = {Integer.MIN_VALUE, -1000000, -31, -2, -1, 0, 1, 4, 5, 29, 30, 31, 100000, Integer.MAX_VALUE};
        for (int v : far) {
            for (int w : far) {
                SaltRooms x = new SaltRooms();
                x.cavern(5, 0, 29);
                x.cavern(50, 3, 9);
                x.choice(5, 5, 50);
                callsOf(x, v, w);
                callsOf(x, 0, w);
                callsOf(x, v, 5);
                DUE.is("it lives", x.count(11) >= 0 ? 1 : 0, 1);
            }
        }
    }

    private static void callsOf(SaltRooms x, int v, int w) {
        x.feed(v, w);
        x.feed(v, Long.MIN_VALUE);
        x.bed(v);
        x.cavern(v, w, w);
        x.cavern(5, v, w);
        x.string(v, w, w, w);
        x.string(0, v, w, v);
        x.law(v, w);
        x.half(v, w);
        x.ring(v, w, 0);
        x.ring(0, v, w);
        x.of(v, w);
        x.set(v, w);
        x.between(v, w, w, true);
        x.between(0, v, w, false);
        x.fill(0, true, v, true);
        x.fill(v, false, w, true);
        x.fill(v, false, w, false);
        x.owner(v);
        x.has(v, w, false);
        x.spread(v);
        x.sinks(v);
        x.breach(v, true);
        x.wall(v, w, v);
        x.wall(0, 1, v);
        x.near(v, w);
        x.fall(v, w);
        x.mend(v);
        x.hidden(v, w);
        x.hidden(0, w);
        x.reading(v, w, v, w);
        x.reading(0, 5, v, w);
        x.bounds(v, w, v);
        x.quarrel(v);
        x.nextEcho(v, w);
        x.test(v, w, v, w, v, w);
        x.test(0, v, w, v, w, v);
        x.leak(v, w);
        x.howLong(v, w, v);
        x.need(v, w);
        x.gives(v, w);
        x.given(v);
        x.proof(v);
        x.aim(v, w);
        x.choice(v, w, v);
        x.plan(v, w, v);
        x.plan(0, v, w);
        x.step(v, w);
        x.step(1, w);
        x.undo();
        x.count(v);
        x.years(v);
        x.close(v);
        x.giveUp(w);
    }
}

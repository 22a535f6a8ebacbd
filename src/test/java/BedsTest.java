/** Promises 1 to 6: a new object, the TEXT, the BEDS, CAVERNS and their STRINGS. */
public final class BedsTest {
    private static final Due DUE = new Due("BedsTest");

    public static void main(String[] args) {
        aNewObject();
        feed();
        feedKeepsItsBytesInOrder();
        beds();
        faults();
        faultsLeaveNothing();
        bedsWithCaverns();
        bed();
        cavern();
        string();
        stringOfFullRings();
        DUE.end();
    }

    private static void aNewObject() {
        SaltRooms x = new SaltRooms();
        for (int what = 0; what <= 7; what++) {
            DUE.is("new count(" + what + ")", x.count(what), 0);
        }
        for (int what = 11; what <= 17; what++) {
            DUE.is("new count(" + what + ")", x.count(what), 0);
        }
        for (int level = 0; level < 30; level++) {
            DUE.is("new bed(" + level + ")", x.bed(level), 0);
        }
        for (int day = -1; day < 12; day++) {
            DUE.is("new given(" + day + ")", x.given(day), 0);
        }
        DUE.is("new has(0, -1, false)", x.has(0, -1, false), 0);
        DUE.is("new has(0, 0, true)", x.has(0, 0, true), 0);
        DUE.is("new sinks(0)", x.sinks(0), 0);
        DUE.is("new sinks(-1)", x.sinks(-1), 0);
        DUE.is("new proof(11)", x.proof(11), 0);
        DUE.is("new undo()", x.undo(), -3);
        DUE.is("new of(0, 0)", x.of(0, 0), -1);
        DUE.is("new noChoices()", x.noChoices(), 0);
        DUE.is("new owner(3)", x.owner(3), 0);
        DUE.is("new spread(3)", x.spread(3), 100);
        int[] first = {2, 5, 10, 5};
        for (int what = 0; what < 4; what++) {
            DUE.is("new set(" + what + ", 3)", x.set(what, 3), first[what]);
        }
        for (int k = 0; k < 10; k++) {
            DUE.is("new law(" + k + ", 5)", x.law(k, 5), 90 - 10 * k);
        }
        for (int level = 0; level < 30; level++) {
            DUE.is("new aim(" + level + ", 5)", x.aim(level, 5), 0);
        }
        SaltRooms other = new SaltRooms();
        DUE.is("another object's law", other.law(0, 1), 90);
    }

    private static void feed() {
        SaltRooms x = new SaltRooms();
        DUE.is("feed(0, 1)", x.feed(0, 1), -4);
        DUE.is("feed(-5, 1)", x.feed(-5, 1), -4);
        DUE.is("feed(least, 1)", x.feed(Integer.MIN_VALUE, 1), -4);
        DUE.is("feed(9, 1)", x.feed(9, 1), -6);
        DUE.is("feed(greatest, 1)", x.feed(Integer.MAX_VALUE, 1), -6);
        DUE.is("nothing came", x.count(2), 0);
        for (int i = 1; i <= 7; i++) {
            DUE.is("feed(8, ..)", x.feed(8, -1), 8 * i);
        }
        DUE.is("feed(5, ..) at 56", x.feed(5, 0), -6);
        DUE.is("feed(4, ..) at 56", x.feed(4, 0), 60);
        DUE.is("feed(1, ..) at 60", x.feed(1, 0), -6);
        DUE.is("count(2)", x.count(2), 60);
        DUE.is("count(14)", x.count(14), 3);
        DUE.is("count(16)", x.count(16), 4);
        DUE.is("beds() of no text", x.beds(), -20);
        DUE.is("the text is gone", x.count(2), 0);
    }

    private static void feedKeepsItsBytesInOrder() {
        SaltRooms x = new SaltRooms();
        // "s1" 'h' and what is above n bytes counts nothing.
        DUE.is("feed(2, ..)", x.feed(2, 0x7f7f_3173L), 2);
        DUE.is("feed(3, ..)", x.feed(3, 0x39_3268L), 5);
        DUE.is("beds()", x.beds(), 30);
        DUE.is("bed(0)", x.bed(0), 0);
        DUE.is("bed(1)", x.bed(1), 10);
        DUE.is("bed(29)", x.bed(29), 10);
        // A byte above 127 is no sign of the TEXT.
        DUE.is("feed(1, 0xf3)", x.feed(1, 0xf3), 1);
        DUE.is("beds()", x.beds(), -20);
        DUE.is("feed(8, -1)", x.feed(8, -1), 8);
        DUE.is("beds()", x.beds(), -20);
    }

    private static void beds() {
        tells("s30", "000000000000000000000000000000");
        tells("h30", "XXXXXXXXXXXXXXXXXXXXXXXXXXXXXX");
        tells("d130", "111111111111111111111111111111");
        tells("d930", "999999999999999999999999999999");
        tells("s1h2d33s24", "0XX333000000000000000000000000");
        tells("(s1h1)15", "0X0X0X0X0X0X0X0X0X0X0X0X0X0X0X");
        tells("((s1d52)2h1)4s2", "055055X055055X055055X055055X00");
        tells("(((s1h1d11)2)2s3)2", "0X10X10X10X10000X10X10X10X1000");
        tells("s5(h5)1(s5)4", "00000XXXXX00000000000000000000");
        tells("(((s30)1)1)1", "000000000000000000000000000000");
        tells("s10s10s10", "000000000000000000000000000000");
        tells("(s1)29h1", "00000000000000000000000000000X");
    }

    private static void tells(String text, String kinds) {
        SaltRooms x = new SaltRooms();
        DUE.is("feed of " + text, Due.feed(x, text), text.length());
        int answer = x.beds();
        DUE.is("beds() of " + text, answer, 30);
        DUE.is("count(2) behind " + text, x.count(2), 0);
        for (int level = 0; level < 30; level++) {
            char kind = kinds.charAt(level);
            DUE.is(text + " bed(" + level + ")", x.bed(level), kind == 'X' ? 10 : kind - '0');
        }
    }

    private static void faults() {
        fault("", 0);
        fault("s", 1);
        fault("h", 1);
        fault("d", 1);
        fault("d5", 2);
        fault("(", 1);
        fault("(s3", 3);
        fault("(s3)", 4);
        fault("x", 0);
        fault("S30", 0);
        fault("3", 0);
        fault(")", 0);
        fault("()2", 1);
        fault("s30)", 3);
        fault("s30)1", 3);
        fault("s1(s1()2)2", 6);
        fault("s29", 3);
        fault("s1", 2);
        fault("s0", 1);
        fault("s00", 1);
        fault("s01", 1);
        fault("s30s", 4);
        fault("s30s0", 4);
        fault("s30(", 4);
        fault("s30(s1)1", 5);
        fault("s30h1", 4);
        fault("s30d", 4);
        fault("s30d31", 5);
        fault("s31", 1);
        fault("s99", 1);
        fault("s300", 3);
        fault("s303", 3);
        fault("s310", 1);
        fault("s29s2", 4);
        fault("s29s12", 4);
        fault("s20s11", 4);
        fault("s15(s5s11", 7);
        fault("s15(s5s10)1x", 11);
        fault("s15(s5)4", 7);
        fault("s15(s5)3x", 8);
        fault("(s10)0", 5);
        fault("(s1)31", 4);
        fault("(s16)2", 5);
        fault("(s15)2s1", 7);
        fault("(s2)x", 4);
        fault("((s2)2)9", 7);
        fault("((s2)3)", 7);
        fault("(((s1)5)2)3(((s1)1)1)", 15);
        fault("((((s1", 3);
        fault("(((s1)1)1)1((((s1", 14);
        fault("d0", 1);
        fault("dx", 1);
        fault("s9d9(h1d1)1", 4);
        fault("d50", 2);
        fault("d5x", 2);
        fault("d931", 2);
        fault("s1 ", 2);
        fault(" s30", 0);
        fault("s30\n", 3);
        fault("(s1s1s1s1s1s1s1s1s1s1s1s1s1s1s1s1s1s1s1s1s1s1s1s1s1s1s1s1s1", 59);
    }

    private static void faultsLeaveNothing() {
        SaltRooms x = Due.rooms("h30");
        Due.feed(x, "s5d95x");
        DUE.is("a fault behind some beds", x.beds(), -25);
        Due.feed(x, "x");
        DUE.is("a fault at the first byte", x.beds(), -20);
        DUE.is("bed(0)", x.bed(0), 10);
        DUE.is("bed(5)", x.bed(5), 10);
    }

    private static void fault(String text, int place) {
        SaltRooms x = Due.rooms("h30");
        Due.feed(x, text);
        DUE.is("beds() of " + text, x.beds(), -20 - place);
        DUE.is("the text of " + text + " is gone", x.count(2), 0);
        DUE.is("the beds stay behind " + text, x.bed(0) + x.bed(29), 20);
        for (int what = 11; what <= 17; what++) {
            DUE.is("nothing is counted behind " + text, x.count(what), 0);
        }
    }

    private static void bedsWithCaverns() {
        SaltRooms x = Due.rooms("h30");
        x.cavern(5, 0, 0);
        Due.feed(x, "s30");
        DUE.is("beds() with a cavern", x.beds(), -3);
        DUE.is("it stays", x.count(2), 3);
        DUE.is("counted", x.count(13), 1);
        DUE.is("bed(0)", x.bed(0), 10);
        x.giveUp(0);
        DUE.is("beds() with a given up one", x.beds(), -3);
    }

    private static void bed() {
        SaltRooms x = Due.rooms("s1h1d128");
        DUE.is("bed(-1)", x.bed(-1), -1);
        DUE.is("bed(30)", x.bed(30), -1);
        DUE.is("bed(greatest)", x.bed(Integer.MAX_VALUE), -1);
        DUE.is("bed(least)", x.bed(Integer.MIN_VALUE), -1);
        DUE.is("count(11)", x.count(11), 4);
        DUE.is("bed(0)", x.bed(0), 0);
        DUE.is("bed(1)", x.bed(1), 10);
        DUE.is("bed(2)", x.bed(2), 1);
    }

    private static void cavern() {
        SaltRooms x = new SaltRooms();
        DUE.is("b above a", x.cavern(5, 4, 3), -1);
        DUE.is("no level a", x.cavern(5, -1, 3), -1);
        DUE.is("no level b", x.cavern(5, 3, 30), -1);
        DUE.is("levels go ahead of the place", x.cavern(-1, 3, 30), -1);
        DUE.is("place -1", x.cavern(-1, 3, 3), -4);
        DUE.is("place 1000", x.cavern(1000, 3, 3), -6);
        DUE.is("count(1)", x.count(1), 0);
        DUE.is("the first", x.cavern(0, 3, 7), 0);
        for (int i = 1; i < 5; i++) {
            DUE.is("the next", x.cavern(999, 0, 29), i);
        }
        DUE.is("the sixth", x.cavern(5, 0, 0), -6);
        DUE.is("the sixth's place", x.cavern(-5, 0, 0), -4);
        DUE.is("the sixth's levels", x.cavern(-5, 1, 0), -1);
        DUE.is("count(1)", x.count(1), 5);
        for (int level = 0; level < 30; level++) {
            boolean has = level >= 3 && level <= 7;
            DUE.is("SIZE at first", x.ring(0, level, 0), has ? 1 : -1);
            DUE.is("REACH at first", x.ring(4, level, 1), 1);
        }
        int[] first = {0, 0, 0, 0, 5, 0, 0, 0, 0, 3, 0, 0, 7, 3, 3};
        for (int what = 0; what <= 14; what++) {
            DUE.is("of(0, " + what + ") at first", x.of(0, what), first[what]);
        }
    }

    private static void string() {
        SaltRooms x = new SaltRooms();
        x.cavern(5, 3, 7);
        DUE.is("no cavern", x.string(1, 3, 3, 3), -1);
        DUE.is("no cavern -1", x.string(-1, 3, 3, 3), -1);
        DUE.is("water above", x.string(0, 2, 3, 3), -1);
        DUE.is("water below", x.string(0, 8, 3, 3), -1);
        DUE.is("brine above", x.string(0, 3, 2, 3), -1);
        DUE.is("brine below", x.string(0, 3, 8, 3), -1);
        DUE.is("oil above", x.string(0, 3, 3, 2), -1);
        DUE.is("oil below", x.string(0, 3, 3, 8), -1);
        DUE.is("nothing changed", x.of(0, 12) * 10000 + x.of(0, 13) * 100 + x.of(0, 14), 70303);
        DUE.is("string(0, 4, 6, 5)", x.string(0, 4, 6, 5), 1);
        DUE.is("as told", x.of(0, 12) * 10000 + x.of(0, 13) * 100 + x.of(0, 14), 40605);
        DUE.is("string(0, 5, 5, 7)", x.string(0, 5, 5, 7), 1);
        DUE.is("all of them shielded", x.step(0, 99), 0);
        DUE.is("washed all the same", x.of(0, 0), 1);
        DUE.is("a washed one's", x.string(0, 7, 3, 3), 1);
        x.fill(0, false, 1, true);
        DUE.is("a kept one's", x.string(0, 7, 3, 3), -3);
        DUE.is("a kept one's levels", x.string(0, 7, 3, 2), -1);
        x.close(0);
        DUE.is("a shut one's", x.string(0, 7, 3, 3), -3);
        x.giveUp(0);
        DUE.is("a given up one's", x.string(0, 7, 3, 3), -3);
        DUE.is("count(13)", x.count(13), 3);
    }

    /** Level 2: 45, 40 stay; level 1: 45, 40 stay; 80 on THE FLOOR are 34 more than SIZE 46 of level 2. */
    private static void stringOfFullRings() {
        SaltRooms x = Due.rooms("d930");
        x.cavern(5, 0, 2);
        x.string(0, 2, 1, 2);
        x.string(0, 2, 1, 0);
        DUE.is("step(0, 50)", x.step(0, 50), 10);
        DUE.is("level 2 is full", x.ring(0, 2, 2), 1);
        DUE.is("level 1 is not", x.ring(0, 1, 2), 0);
        DUE.is("water to a full one", x.string(0, 2, 1, 0), -1);
        DUE.is("brine to a full one", x.string(0, 1, 2, 0), -1);
        DUE.is("oil to a full one", x.string(0, 1, 1, 2), -1);
        DUE.is("to others", x.string(0, 1, 0, 1), 1);
    }
}

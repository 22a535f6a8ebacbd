/** The edges that the document names under I: LEVELS, the TEXT and its FAULTS, CAVERNS, RINGS, STRINGS, STATES. */
public final class EdgesOfBedsTest {
    private static final Due DUE = new Due("EdgesOfBedsTest");
    private static final int MIN = Integer.MIN_VALUE;
    private static final int MAX = Integer.MAX_VALUE;
    // Bytes that begin an ITEM.
    private static final String ITEMS = "shd(";
    private static final String COUNTS = "123456789";

    public static void main(String[] args) {
        levelsFrom0To29();
        zeroIsTheHighest();
        textOfNoBytes();
        textOf60Bytes();
        textByOneByte();
        bytesOfALong();
        itemsOfEachKind();
        digits1To9();
        counts1To30();
        countsOfBrackets();
        bracketsThreeDeep();
        just30Levels();
        faultAtEachPlace();
        faultsOfEachByte();
        faultsLeaveNoBrackets();
        allSaltAtFirst();
        refusedTextStays();
        cavernsFrom0To5();
        placesFrom0To999();
        fromALevelToOneNotAboveIt();
        sizeOneAtFirst();
        reachIsTheGreatest();
        stringAtFirst();
        oilShieldsWhatIsAboveIt();
        stringsOfFullRings();
        states();
        DUE.end();
    }

    private static String repeat(String part, int times) {
        return part.repeat(times);
    }

    /** Feeds a TEXT to a new object: what beds() answers. */
    private static int bedsOf(String text) {
        SaltRooms x = new SaltRooms();
        Due.feed(x, text);
        DUE.is("bytes of " + text, x.count(2), text.length());
        int answer = x.beds();
        DUE.is("no bytes behind " + text, x.count(2), 0);
        for (int what = 11; what <= 17; what++) {
            DUE.is("nothing is counted behind " + text, x.count(what), 0);
        }
        return answer;
    }

    private static void fault(String text, int place) {
        DUE.is("FAULT of " + text, bedsOf(text), -20 - place);
    }

    private static void right(String text) {
        DUE.is("beds() of " + text, bedsOf(text), 30);
    }

    /** "LEVELS 0 .. 29". */
    private static void levelsFrom0To29() {
        SaltRooms x = Due.rooms("h30");
        int[] none = {-1, 30, MIN, MAX, -30, 31, 59};
        for (int i = 0; i < none.length; i++) {
            DUE.is("bed(" + none[i] + ")", x.bed(none[i]), -1);
            DUE.is("counted", x.count(11), i + 1);
        }
        for (int level = 0; level < 30; level++) {
            DUE.is("bed(" + level + ")", x.bed(level), 10);
        }
        DUE.is("the highest", x.cavern(0, 0, 0), 0);
        DUE.is("the lowest", x.cavern(100, 29, 29), 1);
        DUE.is("all of them", x.cavern(200, 0, 29), 2);
        DUE.is("above the highest", x.cavern(300, -1, 29), -1);
        DUE.is("below the lowest", x.cavern(300, 0, 30), -1);
        DUE.is("ends of int", x.cavern(300, MIN, MAX), -1);
        DUE.is("three of them", x.count(1), 3);
    }

    /** "0 highest". */
    private static void zeroIsTheHighest() {
        SaltRooms x = Due.rooms("h1s28d11");
        DUE.is("the first that is told", x.bed(0), 10);
        DUE.is("the last that is told", x.bed(29), 1);
        x.cavern(0, 0, 29);
        DUE.is("its lowest", x.of(0, 12), 29);
        DUE.is("its highest", x.of(0, 13), 0);
    }

    private static void textOfNoBytes() {
        fault("", 0);
        SaltRooms x = new SaltRooms();
        DUE.is("beds()", x.beds(), -20);
        DUE.is("beds() again", x.beds(), -20);
        DUE.is("count(2)", x.count(2), 0);
    }

    /** "60 bytes at most". */
    private static void textOf60Bytes() {
        right(repeat("s1", 30));
        right(repeat("(h1)1", 4) + repeat("s1", 19) + "s7");
    }

    private static void textByOneByte() {
        String text = repeat("s1", 30);
        SaltRooms x = new SaltRooms();
        for (int i = 0; i < 60; i++) {
            DUE.is("byte " + i, x.feed(1, text.charAt(i)), i + 1);
        }
        for (int n = 1; n <= 9; n++) {
            DUE.is("feed(" + n + ", ..) at 60", x.feed(n, 's'), -6);
        }
        DUE.is("feed(0, ..) at 60", x.feed(0, 's'), -4);
        DUE.is("feed(least, ..) at 60", x.feed(MIN, 's'), -4);
        DUE.is("feed(greatest, ..) at 60", x.feed(MAX, 's'), -6);
        DUE.is("count(16)", x.count(16), 10);
        DUE.is("count(14)", x.count(14), 2);
        DUE.is("count(2)", x.count(2), 60);
        DUE.is("beds()", x.beds(), 30);
        for (int n = 1; n <= 8; n++) {
            SaltRooms y = new SaltRooms();
            int full = 60 - n + 1;
            for (int i = 0; i < full; i++) {
                y.feed(1, 's');
            }
            DUE.is("one too many by " + n, y.feed(n, 0), -6);
            DUE.is("none of them came", y.count(2), full);
            if (n > 1) {
                DUE.is("one less", y.feed(n - 1, 0), 60);
            }
        }
    }

    /** "n (1 .. 8) bytes come to the TEXT, the lowest first": the highest bit of a long is one of the eighth's. */
    private static void bytesOfALong() {
        long[] ends = {Long.MIN_VALUE, Long.MAX_VALUE, -1, 0};
        for (long end : ends) {
            for (int n = 1; n <= 8; n++) {
                SaltRooms x = new SaltRooms();
                Due.feed(x, "s1");
                DUE.is("feed(" + n + ", " + end + ")", x.feed(n, end), 2 + n);
                DUE.is("none of them is a sign of the TEXT", x.beds(), -22);
            }
        }
        // "s1s1s1s" and an eighth byte: 0x31 is a count, 0xb1 (the same and the highest bit) is none.
        long seven = 0x73_3173_3173_3173L;
        SaltRooms y = new SaltRooms();
        DUE.is("with a count", y.feed(8, seven | 0x31L << 56), 8);
        DUE.is("it stands", y.beds(), -28);
        DUE.is("with the highest bit", y.feed(8, seven | 0xb1L << 56), 8);
        DUE.is("it can't stand", y.beds(), -27);
        DUE.is("what is above n bytes is none of them", y.feed(3, 0x7878_7878_7830_3373L), 3);
        DUE.is("s30", y.beds(), 30);
    }

    private static void itemsOfEachKind() {
        String[] texts = {"s30", "h30", "d130", "(s30)1", "(s1h1d11)10", "s1h1d11(s27)1"};
        for (String text : texts) {
            right(text);
        }
    }

    /** "a digit 1 .. 9 (tenths that stay)". */
    private static void digits1To9() {
        for (int digit = 1; digit <= 9; digit++) {
            SaltRooms x = Due.rooms("d" + digit + "30");
            DUE.is("d" + digit, x.bed(0) * 100 + x.bed(29), digit * 101);
        }
        fault("d030", 1);
        fault("d/30", 1);
        fault("d:30", 1);
        fault("d", 1);
        fault("s1d", 3);
    }

    /** "A count is 1 or 2 digits, 1 .. 30, no 0 ahead." */
    private static void counts1To30() {
        String[] kinds = {"s", "d5"};
        for (String kind : kinds) {
            int place = kind.length();
            for (int count = 1; count < 30; count++) {
                SaltRooms x = Due.rooms(kind + count + "h" + (30 - count));
                DUE.is("its last", x.bed(count - 1), kind.equals("s") ? 0 : 5);
                DUE.is("the next", x.bed(count), 10);
            }
            right(kind + 30);
            for (int count = 31; count <= 99; count++) {
                fault(kind + count, place);
            }
            for (int second = 0; second <= 9; second++) {
                fault(kind + 0 + second, place);
            }
            fault(kind + "0", place);
            fault(kind + "300", place + 2);
            fault(kind + "100", place + 2);
            fault(kind + "291", place + 2);
        }
        // Signs beside the digits.
        fault("s/", 1);
        fault("s:", 1);
        fault("s1/", 2);
        fault("s1:", 2);
        fault("h30/", 3);
    }

    private static void countsOfBrackets() {
        for (int count = 1; count < 30; count++) {
            SaltRooms x = Due.rooms("(s1)" + count + "h" + (30 - count));
            DUE.is("its last", x.bed(count - 1), 0);
            DUE.is("the next", x.bed(count), 10);
        }
        right("(s1)30");
        for (int count = 31; count <= 99; count++) {
            fault("(s1)" + count, 4);
        }
        fault("(s1)0", 4);
        fault("(s1)01", 4);
        fault("(s1)300", 6);
        fault("(s1)", 4);
        fault("(s1", 3);
        // One inside stands so often that there are just 30, or one more.
        for (int inside = 1; inside <= 30; inside++) {
            int most = 30 / inside;
            int left = 30 - inside * most;
            right("(s" + inside + ")" + most + (left > 0 ? "h" + left : ""));
            String head = "(s" + inside + ")";
            fault(head + (most + 1), head.length());
        }
    }

    /** "Brackets are 3 deep at most": "of a fourth bracket its own". */
    private static void bracketsThreeDeep() {
        right("(s30)1");
        right("((s30)1)1");
        right("(((s30)1)1)1");
        fault("((((s30)1)1)1)1", 3);
        fault("((((", 3);
        fault("(((", 3);
        fault("(((s1((", 5);
        fault("s1(s1(s1(s1(s1", 11);
        right("(((s5)1)1)1(((s5)1)1)1(((s5)1)1)1(((s15)1)1)1");
        fault("(((s5)1)1((((", 11);
        right("((s5)1(s5)1((s5)1)1)2");
    }

    /** "It must tell just 30 LEVELS." */
    private static void just30Levels() {
        right("s30");
        fault("s29", 3);
        fault("s1", 2);
        fault("s15h14", 6);
        right("s15h15");
        fault("s15h16", 4);
        fault("s30s1", 4);
        fault("s30h1", 4);
        fault("s30d11", 5);
        fault("s30(s1)1", 5);
        fault("(s1)30s1", 7);
        fault("(s29)1", 6);
        right("(s29)1s1");
        fault("(s29)1s2", 7);
        fault("s1(s15)2", 7);
        right("(s15)2");
        fault("(s15)1", 6);
        fault("((s5)3)3", 7);
        right("((s5)3)2");
        fault("((s5)3s1)2", 9);
        // What is inside is above 30 with what is ahead of it, whatever its bracket's count.
        fault("s15(s16)1", 5);
        fault("s15(s15s1)1", 8);
        fault("s15(h8)2", 7);
    }

    /** FAULTS at each place of a TEXT of up to 60 bytes, and at its end: -20 .. -80. */
    private static void faultAtEachPlace() {
        for (int pairs = 0; pairs < 30; pairs++) {
            String ahead = repeat("s1", pairs);
            fault(ahead + "x", 2 * pairs);
            fault(ahead + "sx", 2 * pairs + 1);
            fault(ahead, 2 * pairs);
            fault(ahead + "s", 2 * pairs + 1);
        }
        fault(repeat("d11", 20), 60);
        fault(repeat("s1", 28) + "(s1(", 60);
        fault(repeat("s1", 28) + "d11(", 60);
        fault(repeat("d11", 19) + "h1d", 60);
        fault(repeat("s1", 29) + "h2", 59);
    }

    /** "the place of the first byte that can not stand": each byte behind these beginnings. */
    private static void faultsOfEachByte() {
        String digits = "0" + COUNTS;
        behind("", ITEMS);
        behind("s", COUNTS);
        behind("h", COUNTS);
        behind("d", COUNTS);
        behind("d9", COUNTS);
        behind("s1", digits + ITEMS);
        behind("s30", ITEMS);
        behind("d11", digits + ITEMS);
        behind("(", ITEMS);
        behind("((", ITEMS);
        behind("(((", "shd");
        behind("(s1", digits + ITEMS + ")");
        behind("(((s1", digits + "shd)");
        behind("(((s1)", COUNTS);
        behind("(((s1)1", digits + ITEMS + ")");
        behind("(((s1)1)1", digits + ITEMS + ")");
        behind("(((s1)1)1)1", digits + ITEMS);
        behind("(s1)", COUNTS);
        behind("(s1)1", digits + ITEMS);
        behind("(s1)12", ITEMS);
    }

    private static void behind(String beginning, String stands) {
        for (char sign = 0; sign < 256; sign++) {
            boolean can = stands.indexOf(sign) >= 0;
            fault(beginning + sign, can ? beginning.length() + 1 : beginning.length());
        }
    }

    /** A TEXT with a FAULT leaves nothing: the next one is read from its own first byte on. */
    private static void faultsLeaveNoBrackets() {
        String[] texts = {"(", "((", "(((s1", "((((", "(s5", "s29", "s30s", "(s1)", "d", "(s5)5(s2)2x"};
        for (String text : texts) {
            SaltRooms x = Due.rooms("h30");
            Due.feed(x, text);
            DUE.is("a FAULT in " + text, x.beds() < -19 ? 1 : 0, 1);
            DUE.is("as it was", x.bed(0) + x.bed(29), 20);
            Due.feed(x, "(((s2)1)3)5");
            DUE.is("right behind " + text, x.beds(), 30);
            DUE.is("as told", x.bed(0) + x.bed(29), 0);
            Due.feed(x, "s29)");
            DUE.is("a bracket that is not open", x.beds(), -23);
        }
    }

    private static void allSaltAtFirst() {
        SaltRooms x = new SaltRooms();
        for (int level = 0; level < 30; level++) {
            DUE.is("bed(" + level + ")", x.bed(level), 0);
        }
        x.cavern(5, 0, 29);
        DUE.is("it may be washed", x.step(0, 99) > 0 ? 1 : 0, 1);
        DUE.is("nothing stays", x.of(0, 2), 0);
    }

    /** "-3 there are CAVERNS. (Refused: it stays.)" */
    private static void refusedTextStays() {
        SaltRooms x = new SaltRooms();
        Due.feed(x, "h30");
        x.cavern(5, 0, 0);
        for (int i = 1; i <= 3; i++) {
            DUE.is("beds()", x.beds(), -3);
            DUE.is("count(13)", x.count(13), i);
            DUE.is("count(2)", x.count(2), 3);
            DUE.is("salt still", x.bed(0), 0);
        }
        DUE.is("more comes to it", Due.feed(x, "s1"), 5);
        SaltRooms y = new SaltRooms();
        y.cavern(5, 0, 0);
        DUE.is("an empty one", y.beds(), -3);
    }

    /** "CAVERNS have numbers from 0 on (5 at most)". */
    private static void cavernsFrom0To5() {
        SaltRooms x = new SaltRooms();
        DUE.is("none", x.count(1), 0);
        for (int i = 0; i < 5; i++) {
            DUE.is("none of that number yet", x.of(i, 0), -1);
            DUE.is("cavern " + i, x.cavern(i * 200, 0, 29), i);
            DUE.is("count(1)", x.count(1), i + 1);
            DUE.is("planned", x.of(i, 0), 0);
        }
        DUE.is("a sixth", x.cavern(5, 0, 29), -6);
        DUE.is("a sixth's PLACE below", x.cavern(-1, 0, 29), -4);
        DUE.is("a sixth's PLACE above", x.cavern(1000, 0, 29), -6);
        DUE.is("a sixth's LEVELS", x.cavern(-1, 29, 0), -1);
        DUE.is("count(11)", x.count(11), 6);
        DUE.is("count(14)", x.count(14), 1);
        DUE.is("count(16)", x.count(16), 2);
        DUE.is("five still", x.count(1), 5);
        x.giveUp(4);
        DUE.is("a given up one is one too", x.cavern(5, 0, 29), -6);
    }

    /** "a PLACE (0 .. 999)". */
    private static void placesFrom0To999() {
        SaltRooms x = new SaltRooms();
        DUE.is("-1", x.cavern(-1, 3, 3), -4);
        DUE.is("least", x.cavern(MIN, 3, 3), -4);
        DUE.is("1000", x.cavern(1000, 3, 3), -6);
        DUE.is("greatest", x.cavern(MAX, 3, 3), -6);
        DUE.is("0", x.cavern(0, 3, 3), 0);
        DUE.is("999", x.cavern(999, 3, 3), 1);
        DUE.is("as far as can be", x.wall(0, 1, 3), 997);
    }

    /** "from a LEVEL to one that is not above it". */
    private static void fromALevelToOneNotAboveIt() {
        for (int a = 0; a < 30; a++) {
            SaltRooms x = new SaltRooms();
            DUE.is("one LEVEL", x.cavern(5, a, a), 0);
            DUE.is("one RING", x.hidden(0, 0), 1 << a);
            DUE.is("one above it", x.cavern(5, a, a - 1), -1);
            DUE.is("one below it", x.cavern(5, a, a + 1), a == 29 ? -1 : 1);
            DUE.is("LEVEL above", x.ring(0, a - 1, 0), -1);
            DUE.is("LEVEL below", x.ring(0, a + 1, 0), -1);
        }
    }

    private static void sizeOneAtFirst() {
        SaltRooms x = new SaltRooms();
        x.cavern(5, 0, 29);
        for (int level = 0; level < 30; level++) {
            DUE.is("SIZE", x.ring(0, level, 0), 1);
            DUE.is("REACH", x.ring(0, level, 1), 1);
            DUE.is("FULL", x.ring(0, level, 2), 0);
            DUE.is("SHELF", x.ring(0, level, 3), 0);
        }
        DUE.is("ROOM", x.of(0, 4), 30);
    }

    /** "its REACH is the greatest r with r r not above SIZE": just ahead of each square and at it. */
    private static void reachIsTheGreatest() {
        SaltRooms x = Build.strong();
        x.cavern(5, 0, 1);
        x.string(0, 1, 1, 1);
        int size = 1;
        for (int r = 2; r <= 100; r++) {
            for (int want = r * r - 1; want <= r * r; want++) {
                for (int left = want - size; left > 0; left -= 98) {
                    x.step(0, Math.min(left, 98) + 1);
                }
                size = want;
                DUE.is("SIZE", x.ring(0, 1, 0), size);
                DUE.is("REACH of " + size, x.ring(0, 1, 1), want == r * r ? r : r - 1);
            }
        }
    }

    /** "at first its lowest LEVEL, its highest, its highest; it is CUT or not". */
    private static void stringAtFirst() {
        for (int a = 0; a < 30; a++) {
            SaltRooms x = new SaltRooms();
            x.cavern(5, a, 29);
            x.cavern(500, 0, a);
            DUE.is("WATER", x.of(0, 12), 29);
            DUE.is("BRINE", x.of(0, 13), a);
            DUE.is("OIL", x.of(0, 14), a);
            DUE.is("WATER", x.of(1, 12), a);
            DUE.is("BRINE", x.of(1, 13), 0);
            DUE.is("OIL", x.of(1, 14), 0);
            DUE.is("not CUT", x.of(0, 11) + x.of(1, 11), 0);
        }
    }

    /** "OIL down to a LEVEL (RINGS above it are shielded)". */
    private static void oilShieldsWhatIsAboveIt() {
        for (int oil = 10; oil <= 13; oil++) {
            SaltRooms x = Build.strong();
            x.cavern(5, 10, 13);
            DUE.is("string", x.string(0, 10, 13, oil), 1);
            x.step(0, 99);
            for (int level = 10; level <= 13; level++) {
                int washed = x.ring(0, level, 0) > 1 ? 1 : 0;
                DUE.is("OIL at " + oil + ", LEVEL " + level, washed, level < oil ? 0 : 1);
            }
        }
    }

    /** "-1 LEVELS (not of it, FULL ones)": its lowest that is not FULL may be told, the next one not. */
    private static void stringsOfFullRings() {
        SaltRooms x = Due.rooms("d930");
        x.cavern(5, 0, 3);
        x.string(0, 3, 1, 0);
        x.step(0, 50);
        DUE.is("1 is the lowest", x.ring(0, 1, 2) * 10 + x.ring(0, 2, 2), 1);
        int acts = x.count(4);
        for (int which = 0; which < 3; which++) {
            for (int level = -1; level <= 5; level++) {
                int[] at = {0, 0, 0};
                at[which] = level;
                int due = level == 0 || level == 1 ? 1 : -1;
                acts += due == 1 ? 1 : 0;
                DUE.is("string of " + which + " at " + level, x.string(0, at[0], at[1], at[2]), due);
                DUE.is("an ACT if it is not refused", x.count(4), acts);
            }
        }
        DUE.is("count(11)", x.count(11), 15);
        x.fill(0, false, 1, true);
        DUE.is("a FULL one of a kept CAVERN", x.string(0, 2, 0, 0), -1);
        DUE.is("another of a kept CAVERN", x.string(0, 1, 0, 0), -3);
    }

    /** "STATES: 0 planned (never washed), 1 washed (..), 2 kept (..), 3 shut (CLOSED), 4 given up". */
    private static void states() {
        SaltRooms x = Due.rooms("h30");
        x.cavern(5, 10, 12);
        DUE.is("planned", x.of(0, 0), 0);
        x.string(0, 11, 10, 10);
        DUE.is("a STRING is no washing", x.of(0, 0), 0);
        x.step(0, 100);
        DUE.is("nor a refused STEP", x.of(0, 0), 0);
        x.half(0, 50);
        DUE.is("nor HALF", x.of(0, 0), 0);
        DUE.is("nothing is OUT", x.step(0, 99), 0);
        DUE.is("washed all the same", x.of(0, 0), 1);
        x.fill(0, true, 1, true);
        DUE.is("kept", x.of(0, 0), 2);
        x.fill(0, true, 1, false);
        DUE.is("something was in it", x.of(0, 0), 2);
        x.close(0);
        DUE.is("shut", x.of(0, 0), 3);
        x.giveUp(0);
        DUE.is("given up", x.of(0, 0), 4);
        x.cavern(500, 10, 12);
        x.fill(1, false, 1, true);
        DUE.is("kept, never washed", x.of(1, 0), 2);
        x.cavern(900, 10, 12);
        x.close(2);
        DUE.is("shut, never washed", x.of(2, 0), 3);
        DUE.is("the others as they were", x.of(0, 0) * 10 + x.of(1, 0), 42);
    }
}

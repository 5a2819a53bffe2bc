/** One method a promise: ordinary inputs, the edges that the document names, and wrong inputs. */
public final class PromiseTest {
    private static final int UNKNOWN = TideVault.UNKNOWN, OUTSIDE = TideVault.OUTSIDE, FULL = TideVault.FULL;
    private static final long LOST = TideVault.LOST;
    private static final int MISSING = -11, UNFIT = -12, PLACE = -13;

    /** By kind less 1, the kinds that it widens to, as profile() tells them. */
    private static final int[] REACHED = {1, 250, 244, 248, 240, 224, 192, 128};

    private static int wrong = 0;
    private static int asked = 0;
    private static int promise = 0;

    private static void due(String call, long got, long want) {
        asked++;
        if (got != want) {
            wrong++;
            System.out.println("promise " + promise + ": " + call + " answered " + got + ", due is " + want);
        }
    }

    private static long bits(float f) {
        return Float.floatToIntBits(f);
    }

    private static long bits(double d) {
        return Double.doubleToLongBits(d);
    }

    private static TideVault withNumberRows(int n) {
        TideVault x = new TideVault();
        for (int kind = 1; kind <= 8; kind++) {
            due("make(" + (kind - 1) + ", " + kind + ", " + n + ")", x.make(kind - 1, kind, n), 1);
        }
        return x;
    }

    /** Slots: 0 PEGS, 1 TALL pegs, 2 ROWS of INTS, 3 a PEG, 4 a TALL one, 5 INTS, 6 DOUBLES, 7 TRUTHS, 8 and 9 NOTHING. */
    private static TideVault withThings() {
        TideVault x = new TideVault();
        x.make(0, 9, 2);
        x.make(1, 10, 2);
        x.make(2, 11, 2);
        x.make(3, 12, 5);
        x.make(4, 13, 6);
        x.make(5, 5, 3);
        x.make(6, 8, 3);
        x.make(7, 1, 3);
        return x;
    }

    private static void faultsTold(TideVault x, int missing, int unfit, int place) {
        due("told(1)", x.told(1), missing);
        due("told(2)", x.told(2), unfit);
        due("told(3)", x.told(3), place);
    }

    private static void newObject() {
        promise = 1;
        TideVault x = new TideVault();
        for (int slot = 0; slot < 10; slot++) {
            due("kind(" + slot + ")", x.kind(slot), 0);
        }
        due("hand(0)", x.hand(0), 0);
        due("hand(1)", x.hand(1), 0);
        due("went()", x.went(), 0);
        due("told(0)", x.told(0), 0);
        faultsTold(x, 0, 0, 0);
        due("LOST", TideVault.LOST, Long.MIN_VALUE);
        TideVault y = new TideVault();
        y.make(0, 5, 1);
        due("kind(0) of the other object", x.kind(0), 0);
    }

    private static void make() {
        promise = 2;
        TideVault x = new TideVault();
        for (int kind = 1; kind <= 13; kind++) {
            due("make(9, kind, 12)", x.make(9, kind, 12), 1);
            due("kind(9)", x.kind(9), kind);
            due("length(9)", x.length(9), kind <= 11 ? 12 : UNFIT);
            due("make(0, kind, 0)", x.make(0, kind, 0), 1);
            due("length(0)", x.length(0), kind <= 11 ? 0 : UNFIT);
        }
        due("told(0)", x.told(0), 26);
        due("make(-1, 5, 3)", x.make(-1, 5, 3), UNKNOWN);
        due("make(10, 5, 3)", x.make(10, 5, 3), UNKNOWN);
        due("make(10, 0, 13)", x.make(10, 0, 13), UNKNOWN);
        due("make(0, 0, 3)", x.make(0, 0, 3), OUTSIDE);
        due("make(0, 14, 3)", x.make(0, 14, 3), OUTSIDE);
        due("make(0, 5, -1)", x.make(0, 5, -1), OUTSIDE);
        due("make(0, 5, 13)", x.make(0, 5, 13), OUTSIDE);
        due("make(0, 12, 13)", x.make(0, 12, 13), OUTSIDE);
        due("make(0, 13, -1)", x.make(0, 13, -1), OUTSIDE);
        due("kind(0)", x.kind(0), 13);
        due("told(0)", x.told(0), 26);
        newItemsAreEmpty();
        fullVault();
    }

    private static void newItemsAreEmpty() {
        TideVault x = withNumberRows(3);
        for (int kind = 1; kind <= 8; kind++) {
            due("read of a new item", x.read(kind - 1, 2, kind), 0);
        }
        TideVault y = withThings();
        for (int slot = 0; slot < 3; slot++) {
            due("lift(" + slot + ", 1)", y.lift(slot, 1), 1);
            due("hand(0)", y.hand(0), 0);
        }
    }

    private static void fullVault() {
        TideVault x = new TideVault();
        for (int i = 0; i < 199; i++) {
            due("make(1, 11, 12)", x.make(1, 11, 12), 1);
        }
        due("grip(13, 4)", x.grip(13, 4), 1);
        due("told(0)", x.told(0), 200);
        due("make(1, 5, 3)", x.make(1, 5, 3), FULL);
        due("make(1, 12, 3)", x.make(1, 12, 3), FULL);
        due("make(-1, 12, 3)", x.make(-1, 12, 3), UNKNOWN);
        due("make(1, 12, 13)", x.make(1, 12, 13), OUTSIDE);
        due("kind(1)", x.kind(1), 11);
        due("grip(12, 3)", x.grip(12, 3), FULL);
        due("grip(12, 13)", x.grip(12, 13), OUTSIDE);
        due("hand(1)", x.hand(1), 4);
        due("grip(5, 3)", x.grip(5, 3), 1);
        due("hand(1)", x.hand(1), 3);
        due("grip(0, 3)", x.grip(0, 3), 1);
        due("share(2, 1)", x.share(2, 1), 1);
        due("told(0)", x.told(0), 200);
        faultsTold(x, 0, 0, 0);
    }

    private static void share() {
        promise = 3;
        TideVault x = new TideVault();
        x.make(0, 5, 3);
        due("share(9, 0)", x.share(9, 0), 1);
        due("set(9, 1, 5, 44)", x.set(9, 1, 5, 44), 1);
        due("read(0, 1, 5)", x.read(0, 1, 5), 44);
        due("share(0, 0)", x.share(0, 0), 1);
        due("kind(0)", x.kind(0), 5);
        due("share(0, 4)", x.share(0, 4), 1);
        due("kind(0)", x.kind(0), 0);
        due("kind(9)", x.kind(9), 5);
        due("share(10, 9)", x.share(10, 9), UNKNOWN);
        due("share(9, 10)", x.share(9, 10), UNKNOWN);
        due("share(-1, 9)", x.share(-1, 9), UNKNOWN);
        due("share(9, -1)", x.share(9, -1), UNKNOWN);
        due("kind(9)", x.kind(9), 5);
        due("told(0)", x.told(0), 1);
    }

    private static void kind() {
        promise = 4;
        TideVault x = new TideVault();
        for (int kind = 1; kind <= 13; kind++) {
            x.make(4, kind, 2);
            due("kind(4)", x.kind(4), kind);
        }
        due("kind(5)", x.kind(5), 0);
        due("kind(-1)", x.kind(-1), UNKNOWN);
        due("kind(10)", x.kind(10), UNKNOWN);
        faultsTold(x, 0, 0, 0);
    }

    private static void length() {
        promise = 5;
        TideVault x = withThings();
        due("length(0)", x.length(0), 2);
        due("length(5)", x.length(5), 3);
        due("length(3)", x.length(3), UNFIT);
        due("length(4)", x.length(4), UNFIT);
        due("length(8)", x.length(8), MISSING);
        due("length(-1)", x.length(-1), UNKNOWN);
        due("length(10)", x.length(10), UNKNOWN);
        x.make(0, 9, 0);
        due("length(0)", x.length(0), 0);
        faultsTold(x, 1, 2, 0);
    }

    private static void read() {
        promise = 6;
        TideVault x = withNumberRows(3);
        long[] given = {1, -3, 65533, -300, -70000, (1L << 53) + 1, 100, -3};
        for (int kind = 1; kind <= 8; kind++) {
            x.set(kind - 1, 1, kind, given[kind - 1]);
        }
        for (int kind = 1; kind <= 8; kind++) {
            for (int as = 1; as <= 8; as++) {
                long want = (REACHED[kind - 1] >> (as - 1) & 1) == 1 ? readDue(kind, as, given[kind - 1]) : LOST;
                due("read(" + (kind - 1) + ", 1, " + as + ")", x.read(kind - 1, 1, as), want);
            }
        }
        due("told(2)", x.told(2), 64 - 27);
        readWrong();
        readRounds();
    }

    private static long readDue(int kind, int as, long v) {
        if (as == 7) {
            return kind == 7 ? bits(v / 8.0f) : bits((float) v);
        }
        if (as == 8) {
            return kind >= 7 ? bits(v / 8.0) : bits((double) v);
        }
        return v;
    }

    private static void readWrong() {
        TideVault x = withThings();
        due("read(-1, 0, 5)", x.read(-1, 0, 5), LOST);
        due("read(10, 0, 5)", x.read(10, 0, 5), LOST);
        due("read(5, 0, 0)", x.read(5, 0, 0), LOST);
        due("read(5, 0, 9)", x.read(5, 0, 9), LOST);
        due("read(8, 0, 0)", x.read(8, 0, 0), LOST);
        faultsTold(x, 0, 0, 0);
        due("read(8, 0, 5)", x.read(8, 0, 5), LOST);
        faultsTold(x, 1, 0, 0);
        due("read(3, 9, 5)", x.read(3, 9, 5), LOST);
        due("read(0, 9, 5)", x.read(0, 9, 5), LOST);
        faultsTold(x, 1, 2, 0);
        due("read(5, 3, 5)", x.read(5, 3, 5), LOST);
        due("read(5, -1, 5)", x.read(5, -1, 5), LOST);
        due("read(5, MIN, 5)", x.read(5, Integer.MIN_VALUE, 5), LOST);
        due("read(5, 3, 2)", x.read(5, 3, 2), LOST);
        faultsTold(x, 1, 2, 4);
        due("read(5, 2, 2)", x.read(5, 2, 2), LOST);
        faultsTold(x, 1, 3, 4);
    }

    private static void readRounds() {
        TideVault x = new TideVault();
        x.make(0, 6, 1);
        long[] edges = {(1L << 24) + 1, (1L << 24) + 3, -((1L << 24) + 1), (1L << 53) + 1, (1L << 53) + 3,
            -((1L << 53) + 3), Long.MAX_VALUE, Long.MIN_VALUE, Long.MIN_VALUE + 1, Integer.MAX_VALUE,
            Long.MAX_VALUE - 512, (1L << 54) - 1, (1L << 40) + (1L << 16) + 1, (1L << 60) + (1L << 36) + 1,
            (1L << 60) + (1L << 36), 0, 1, -1};
        for (long v : edges) {
            x.set(0, 0, 6, v);
            due("read(0, 0, 6) of " + v, x.read(0, 0, 6), v);
            due("read(0, 0, 7) of " + v, x.read(0, 0, 7), bits((float) v));
            due("read(0, 0, 8) of " + v, x.read(0, 0, 8), bits((double) v));
        }
    }

    private static void set() {
        promise = 7;
        long[] values = {0, 1, -1, 256, 255, 128, -129, 65535, 65536, 32768, 1L << 31, 1L << 32, -(1L << 31) - 1,
            (1L << 24) + 1, (1L << 53) + 1, (1L << 60) + (1L << 36) + 1, Long.MAX_VALUE, Long.MIN_VALUE, 7, -7};
        TideVault x = withNumberRows(1);
        for (int as = 1; as <= 8; as++) {
            for (long v : values) {
                due("set(" + (as - 1) + ", 0, " + as + ", " + v + ")", x.set(as - 1, 0, as, v), 1);
                due("read back", x.read(as - 1, 0, as), givenDue(as, v));
            }
        }
        setWidens();
        setWrong();
    }

    private static long givenDue(int as, long v) {
        switch (as) {
            case 1: return v != 0 ? 1 : 0;
            case 2: return (byte) v;
            case 3: return (char) v;
            case 4: return (short) v;
            case 5: return (int) v;
            case 6: return v;
            case 7: return bits((float) v / 8);
            default: return bits((double) v / 8);
        }
    }

    private static void setWidens() {
        TideVault x = withNumberRows(1);
        for (int as = 1; as <= 8; as++) {
            for (int kind = 1; kind <= 8; kind++) {
                boolean fits = (REACHED[as - 1] >> (kind - 1) & 1) == 1;
                due("set(" + (kind - 1) + ", 0, " + as + ", 300)", x.set(kind - 1, 0, as, 300), fits ? 1 : UNFIT);
            }
        }
        x.set(7, 0, 2, 300);
        due("a BYTE in DOUBLES", x.read(7, 0, 8), bits(44.0));
        x.set(7, 0, 7, (1L << 24) + 1);
        due("a FLOAT in DOUBLES", x.read(7, 0, 8), bits((double) ((float) ((1L << 24) + 1) / 8)));
        x.set(6, 0, 6, (1L << 40) + (1L << 16) + 1);
        due("a LONG in FLOATS", x.read(6, 0, 7), bits((float) ((1L << 40) + (1L << 16) + 1)));
        x.set(7, 0, 1, 1);
        due("what stays", x.read(7, 0, 8), bits((double) ((float) ((1L << 24) + 1) / 8)));
    }

    private static void setWrong() {
        TideVault x = withThings();
        due("set(-1, 0, 5, 1)", x.set(-1, 0, 5, 1), UNKNOWN);
        due("set(10, 0, 9, 1)", x.set(10, 0, 9, 1), UNKNOWN);
        due("set(5, 0, 0, 1)", x.set(5, 0, 0, 1), OUTSIDE);
        due("set(8, 0, 9, 1)", x.set(8, 0, 9, 1), OUTSIDE);
        faultsTold(x, 0, 0, 0);
        due("set(8, 0, 5, 1)", x.set(8, 0, 5, 1), MISSING);
        due("set(3, 0, 5, 1)", x.set(3, 0, 5, 1), UNFIT);
        due("set(0, 9, 5, 1)", x.set(0, 9, 5, 1), UNFIT);
        due("set(5, 3, 6, 1)", x.set(5, 3, 6, 1), PLACE);
        due("set(5, -1, 5, 1)", x.set(5, -1, 5, 1), PLACE);
        due("set(5, 2, 6, 1)", x.set(5, 2, 6, 1), UNFIT);
        due("read(5, 2, 5)", x.read(5, 2, 5), 0);
        faultsTold(x, 1, 3, 2);
    }

    private static void profile() {
        promise = 8;
        TideVault x = withNumberRows(2);
        for (int slot = 0; slot < 8; slot++) {
            due("profile(" + slot + ", 1)", x.profile(slot, 1), REACHED[slot]);
            due("profile(" + slot + ", 2)", x.profile(slot, 2), PLACE);
            due("profile(" + slot + ", -1)", x.profile(slot, -1), PLACE);
        }
        faultsTold(x, 0, 0, 16);
        TideVault y = withThings();
        for (int slot = 0; slot <= 4; slot++) {
            due("profile(" + slot + ", 0)", y.profile(slot, 0), UNFIT);
            due("profile(" + slot + ", 9)", y.profile(slot, 9), UNFIT);
        }
        due("profile(8, 0)", y.profile(8, 0), MISSING);
        due("profile(-1, 0)", y.profile(-1, 0), UNKNOWN);
        due("profile(10, 0)", y.profile(10, 0), UNKNOWN);
        faultsTold(y, 1, 10, 0);
    }

    private static void grip() {
        promise = 9;
        TideVault x = new TideVault();
        for (int kind = 1; kind <= 8; kind++) {
            due("grip(" + kind + ", -70001)", x.grip(kind, -70001), 1);
            due("hand(0)", x.hand(0), kind);
            due("hand(1)", x.hand(1), givenDue(kind, -70001));
        }
        due("told(0)", x.told(0), 0);
        for (int height = 0; height <= 12; height += 12) {
            for (int kind = 12; kind <= 13; kind++) {
                due("grip(" + kind + ", " + height + ")", x.grip(kind, height), 1);
                due("hand(0)", x.hand(0), kind);
                due("hand(1)", x.hand(1), height);
            }
        }
        due("told(0)", x.told(0), 4);
        for (int kind : new int[] {-1, 9, 10, 11, 14}) {
            due("grip(" + kind + ", 1)", x.grip(kind, 1), OUTSIDE);
        }
        due("grip(12, -1)", x.grip(12, -1), OUTSIDE);
        due("grip(13, 13)", x.grip(13, 13), OUTSIDE);
        due("grip(12, 2^32)", x.grip(12, 1L << 32), OUTSIDE);
        due("hand(0)", x.hand(0), 13);
        due("grip(0, 77)", x.grip(0, 77), 1);
        due("hand(0)", x.hand(0), 0);
        due("hand(1)", x.hand(1), 0);
        due("told(0)", x.told(0), 4);
        faultsTold(x, 0, 0, 0);
    }

    private static void lift() {
        promise = 10;
        TideVault x = withNumberRows(2);
        for (int kind = 1; kind <= 8; kind++) {
            x.set(kind - 1, 1, kind, -3);
            due("lift(" + (kind - 1) + ", 1)", x.lift(kind - 1, 1), 1);
            due("hand(0)", x.hand(0), kind);
            due("hand(1)", x.hand(1), givenDue(kind, -3));
        }
        TideVault y = withThings();
        y.swap(5, false);
        y.lay(2, 1);
        y.grip(6, 1);
        due("lift(2, 1)", y.lift(2, 1), 1);
        due("hand(0)", y.hand(0), 5);
        y.swap(9, true);
        y.set(9, 0, 5, 8);
        due("the very ROW", y.read(5, 0, 5), 8);
        due("lift(2, 0)", y.lift(2, 0), 1);
        due("hand(0)", y.hand(0), 0);
        y.grip(6, 1);
        due("lift(8, 0)", y.lift(8, 0), MISSING);
        due("lift(3, 9)", y.lift(3, 9), UNFIT);
        due("lift(0, 2)", y.lift(0, 2), PLACE);
        due("lift(5, -1)", y.lift(5, -1), PLACE);
        due("lift(-1, 0)", y.lift(-1, 0), UNKNOWN);
        due("lift(10, 0)", y.lift(10, 0), UNKNOWN);
        due("hand(0)", y.hand(0), 6);
        faultsTold(y, 1, 1, 2);
    }

    private static void lay() {
        promise = 11;
        layNumbers();
        layThings();
        TideVault x = withThings();
        due("lay(-1, 0)", x.lay(-1, 0), UNKNOWN);
        due("lay(10, 0)", x.lay(10, 0), UNKNOWN);
        due("lay(8, 0)", x.lay(8, 0), MISSING);
        due("lay(3, 0)", x.lay(3, 0), UNFIT);
        due("NOTHING into numbers", x.lay(5, 0), UNFIT);
        due("NOTHING into numbers, outside", x.lay(5, 3), UNFIT);
        due("NOTHING into things, outside", x.lay(0, 2), PLACE);
        x.grip(6, 5);
        due("a LONG into INTS, outside", x.lay(5, 3), PLACE);
        due("a LONG into INTS", x.lay(5, 2), UNFIT);
        due("a LONG into PEGS, outside", x.lay(0, -1), PLACE);
        due("a LONG into PEGS", x.lay(0, 0), UNFIT);
        x.grip(12, 5);
        due("a PEG into INTS, outside", x.lay(5, 3), PLACE);
        due("a PEG into INTS", x.lay(5, 2), UNFIT);
        due("a PEG into TALL ones, outside", x.lay(1, 2), PLACE);
        due("a PEG where NOTHING is", x.lay(8, 2), MISSING);
        faultsTold(x, 2, 6, 5);
    }

    private static void layNumbers() {
        for (int held = 1; held <= 8; held++) {
            TideVault x = withNumberRows(1);
            x.grip(held, 101);
            for (int kind = 1; kind <= 8; kind++) {
                boolean fits = (REACHED[held - 1] >> (kind - 1) & 1) == 1;
                due("lay of " + held + " into " + kind, x.lay(kind - 1, 0), fits ? 1 : UNFIT);
                long want = !fits ? 0 : held == 1 ? 1 : readDue(held, kind, 101);
                due("read back", x.read(kind - 1, 0, kind), want);
            }
            due("hand(0)", x.hand(0), held);
        }
    }

    private static void layThings() {
        int[] held = {0, 12, 13, 5, 2, 8, 9, 10, 11};
        boolean[][] fits = {{true, true, true}, {true, false, false}, {true, true, false}, {false, false, true},
            {false, false, false}, {false, false, false}, {false, false, false}, {false, false, false},
            {false, false, false}};
        for (int h = 0; h < held.length; h++) {
            TideVault x = withThings();
            if (held[h] != 0) {
                x.make(9, held[h], 7);
            }
            x.swap(9, false);
            for (int slot = 0; slot < 3; slot++) {
                due("lay of " + held[h] + " into slot " + slot, x.lay(slot, 1), fits[h][slot] ? 1 : UNFIT);
                x.grip(6, 1);
                x.lift(slot, 1);
                due("hand(0)", x.hand(0), fits[h][slot] ? held[h] : 0);
                x.swap(9, false);
            }
        }
        TideVault x = withThings();
        x.grip(13, 9);
        x.lay(0, 0);
        x.grip(0, 0);
        due("NOTHING over a PEG", x.lay(0, 0), 1);
        due("height(0, 0)", x.height(0, 0), -1);
    }

    private static void swap() {
        promise = 12;
        TideVault x = withThings();
        due("swap(5, false)", x.swap(5, false), 1);
        due("kind(5)", x.kind(5), 5);
        due("hand(0)", x.hand(0), 5);
        due("swap(8, true)", x.swap(8, true), 1);
        due("hand(0)", x.hand(0), 5);
        x.set(8, 0, 5, 6);
        due("the very ROW", x.read(5, 0, 5), 6);
        x.grip(6, 4);
        due("swap(8, true)", x.swap(8, true), OUTSIDE);
        due("swap(10, true)", x.swap(10, true), UNKNOWN);
        due("swap(-1, true)", x.swap(-1, true), UNKNOWN);
        due("swap(10, false)", x.swap(10, false), UNKNOWN);
        due("swap(-1, false)", x.swap(-1, false), UNKNOWN);
        due("kind(8)", x.kind(8), 5);
        due("hand(1)", x.hand(1), 4);
        due("swap(4, false)", x.swap(4, false), 1);
        due("hand(1)", x.hand(1), 6);
        due("swap(9, false)", x.swap(9, false), 1);
        due("hand(0)", x.hand(0), 0);
        due("swap(8, true)", x.swap(8, true), 1);
        due("kind(8)", x.kind(8), 0);
        faultsTold(x, 0, 0, 0);
    }

    private static void hand() {
        promise = 13;
        TideVault x = withThings();
        int[] numbers = {0, 0, 0, 5, 6, 0, 0, 0, 0, 0};
        for (int slot = 0; slot < 10; slot++) {
            x.swap(slot, false);
            due("hand(0)", x.hand(0), x.kind(slot));
            due("hand(1)", x.hand(1), numbers[slot]);
        }
        x.grip(6, Long.MIN_VALUE + 1);
        due("hand(1)", x.hand(1), Long.MIN_VALUE + 1);
        x.grip(7, -1);
        due("hand(1)", x.hand(1), bits(-0.125f));
        due("hand(2)", x.hand(2), LOST);
        due("hand(-1)", x.hand(-1), LOST);
        x.swap(5, false);
        due("hand(1)", x.hand(1), 0);
        faultsTold(x, 0, 0, 0);
    }

    private static void carry() {
        promise = 14;
        TideVault x = withNumberRows(4);
        for (int i = 0; i < 4; i++) {
            x.set(4, i, 5, 10 + i);
            x.set(5, i, 6, (1L << 24) + 1 + i);
        }
        due("carry(4, 1, 5, 0, 3, 6)", x.carry(4, 1, 5, 0, 3, 6), 3);
        due("read(5, 0, 6)", x.read(5, 0, 6), 11);
        due("read(5, 2, 6)", x.read(5, 2, 6), 13);
        due("read(5, 3, 6)", x.read(5, 3, 6), (1L << 24) + 4);
        x.set(5, 3, 6, (1L << 24) + 1);
        due("LONGS read as FLOATS into DOUBLES", x.carry(5, 3, 7, 0, 1, 7), 1);
        due("read(7, 0, 8)", x.read(7, 0, 8), bits(16777216.0));
        due("along one ROW", x.carry(4, 0, 4, 1, 3, 5), 3);
        due("read(4, 3, 5)", x.read(4, 3, 5), 10);
        due("past the end", x.carry(5, 2, 7, 0, 4, 8), PLACE);
        due("went()", x.went(), 2);
        due("read(7, 1, 8)", x.read(7, 1, 8), bits(16777217.0));
        due("past the other end", x.carry(5, 0, 7, 3, 4, 8), PLACE);
        due("went()", x.went(), 1);
        due("read(7, 3, 8)", x.read(7, 3, 8), bits(11.0));
        due("ahead of the first", x.carry(5, -1, 7, 0, 1, 8), PLACE);
        due("far away", x.carry(5, Integer.MAX_VALUE, 7, 0, 12, 8), PLACE);
        due("far away", x.carry(5, 0, 7, Integer.MIN_VALUE, 12, 8), PLACE);
        carryWrong();
    }

    private static void carryWrong() {
        TideVault x = withThings();
        due("carry(-1, ..)", x.carry(-1, 0, 6, 0, 1, 5), UNKNOWN);
        due("carry(5, .., 10, ..)", x.carry(5, 0, 10, 0, 13, 5), UNKNOWN);
        due("carry(10, .., as 0)", x.carry(10, 0, 5, 0, 1, 0), UNKNOWN);
        due("n = -1", x.carry(5, 0, 6, 0, -1, 5), OUTSIDE);
        due("n = 13", x.carry(8, 0, 6, 0, 13, 5), OUTSIDE);
        due("as 0", x.carry(5, 0, 6, 0, 1, 0), OUTSIDE);
        due("as 9", x.carry(5, 0, 6, 0, 0, 9), OUTSIDE);
        due("n = 0", x.carry(8, 0, 3, 0, 0, 5), 0);
        faultsTold(x, 0, 0, 0);
        due("from NOTHING into a PEG", x.carry(8, 0, 3, 0, 1, 5), MISSING);
        due("from a PEG into NOTHING", x.carry(3, 0, 8, 0, 1, 5), UNFIT);
        due("from INTS into NOTHING", x.carry(5, 0, 8, 0, 1, 5), MISSING);
        due("from outside into NOTHING", x.carry(5, 3, 8, 0, 1, 5), PLACE);
        due("read as what it is not", x.carry(5, 0, 8, 0, 1, 4), UNFIT);
        due("set as what it is not", x.carry(5, 0, 7, 0, 1, 5), UNFIT);
        due("set outside", x.carry(5, 0, 7, 3, 1, 5), PLACE);
        due("into PEGS", x.carry(5, 0, 0, 9, 1, 5), UNFIT);
        due("12 of 3", x.carry(5, 0, 6, 0, 12, 8), PLACE);
        due("went()", x.went(), 3);
        faultsTold(x, 2, 4, 3);
    }

    private static void went() {
        promise = 15;
        TideVault x = withThings();
        due("went()", x.went(), 0);
        due("carry(5, 0, 6, 0, 2, 8)", x.carry(5, 0, 6, 0, 2, 8), 2);
        due("went()", x.went(), 2);
        due("went()", x.went(), 2);
        x.carry(10, 0, 6, 0, 1, 5);
        x.carry(5, 0, 6, 0, 13, 5);
        x.carry(5, 0, 6, 0, 1, 9);
        x.fill(10, 5, 1);
        x.fill(5, 0, 1);
        due("went() after refused ones", x.went(), 2);
        x.set(5, 0, 5, 1);
        x.lay(8, 0);
        due("went() after other calls", x.went(), 2);
        due("fill(5, 5, 1)", x.fill(5, 5, 1), 3);
        due("went()", x.went(), 3);
        due("carry(5, 1, 6, 0, 3, 5)", x.carry(5, 1, 6, 0, 3, 5), PLACE);
        due("went()", x.went(), 2);
        due("fill(5, 6, 1)", x.fill(5, 6, 1), UNFIT);
        due("went()", x.went(), 0);
        x.fill(5, 5, 1);
        due("fill(8, 5, 1)", x.fill(8, 5, 1), MISSING);
        due("went() after a FAULT of the length", x.went(), 0);
        x.fill(5, 5, 1);
        due("carry of none", x.carry(5, 0, 6, 0, 0, 5), 0);
        due("went()", x.went(), 0);
    }

    private static void fill() {
        promise = 16;
        for (int as = 1; as <= 8; as++) {
            TideVault x = withNumberRows(3);
            for (int kind = 1; kind <= 8; kind++) {
                boolean fits = (REACHED[as - 1] >> (kind - 1) & 1) == 1;
                due("fill(" + (kind - 1) + ", " + as + ", 99)", x.fill(kind - 1, as, 99), fits ? 3 : UNFIT);
                due("went()", x.went(), fits ? 3 : 0);
                long want = !fits ? 0 : as == 1 ? 1 : readDue(as, kind, 99);
                due("the first", x.read(kind - 1, 0, kind), want);
                due("the last", x.read(kind - 1, 2, kind), want);
            }
        }
        TideVault x = withThings();
        due("fill(-1, 5, 1)", x.fill(-1, 5, 1), UNKNOWN);
        due("fill(10, 9, 1)", x.fill(10, 9, 1), UNKNOWN);
        due("fill(8, 0, 1)", x.fill(8, 0, 1), OUTSIDE);
        due("fill(5, 9, 1)", x.fill(5, 9, 1), OUTSIDE);
        due("fill(8, 5, 1)", x.fill(8, 5, 1), MISSING);
        due("fill(3, 5, 1)", x.fill(3, 5, 1), UNFIT);
        due("fill(0, 5, 1)", x.fill(0, 5, 1), UNFIT);
        faultsTold(x, 1, 2, 0);
        x.make(0, 9, 0);
        due("PEGS without ITEMS", x.fill(0, 5, 1), 0);
        x.make(5, 5, 0);
        due("INTS without ITEMS", x.fill(5, 6, 1), 0);
        faultsTold(x, 1, 2, 0);
    }

    private static void sum() {
        promise = 17;
        TideVault x = withNumberRows(3);
        boolean[] whole = {false, true, true, true, true, true, false, false};
        for (int kind = 1; kind <= 8; kind++) {
            x.set(kind - 1, 0, kind, -3);
            x.set(kind - 1, 2, kind, 10);
            long exact = kind == 3 ? 65543 : 7;
            due("sum(" + (kind - 1) + ", true)", x.sum(kind - 1, true), whole[kind - 1] ? exact : LOST);
            long inParts = kind == 1 ? LOST : bits(kind >= 7 ? 0.875 : exact);
            due("sum(" + (kind - 1) + ", false)", x.sum(kind - 1, false), inParts);
        }
        faultsTold(x, 0, 4, 0);
        x.set(5, 0, 6, Long.MAX_VALUE);
        x.set(5, 1, 6, 1);
        x.set(5, 2, 6, 5);
        due("it wraps", x.sum(5, true), Long.MIN_VALUE + 5);
        due("sum(5, false)", x.sum(5, false), bits(9223372036854775808.0));
        x.set(7, 0, 6, 1L << 53);
        x.set(7, 1, 5, 1);
        x.set(7, 2, 5, 1);
        due("in order", x.sum(7, false), bits(9007199254740992.0));
        x.set(7, 0, 5, 1);
        x.set(7, 2, 6, 1L << 53);
        due("in order", x.sum(7, false), bits(9007199254740994.0));
        x.set(7, 0, 5, -1);
        x.set(7, 2, 5, 0);
        due("0.0 from both sides", x.sum(7, false), 0);
        x.fill(7, 5, 0);
        x.set(7, 1, 6, (1L << 53) - 1);
        due("to the last bit", x.sum(7, false), bits(9007199254740991.0));
        x.set(6, 0, 7, (1L << 24) - 1);
        x.set(6, 2, 7, -1);
        due("FLOATS to the last bit", x.sum(6, false), bits((16777215 - 1) / 8.0));
        sumWrong();
    }

    private static void sumWrong() {
        TideVault x = withThings();
        due("sum(-1, true)", x.sum(-1, true), LOST);
        due("sum(10, false)", x.sum(10, false), LOST);
        faultsTold(x, 0, 0, 0);
        due("sum(8, true)", x.sum(8, true), LOST);
        due("sum(3, false)", x.sum(3, false), LOST);
        due("sum(0, false)", x.sum(0, false), LOST);
        due("sum(7, true)", x.sum(7, true), LOST);
        faultsTold(x, 1, 3, 0);
        for (int kind = 1; kind <= 11; kind++) {
            x.make(0, kind, 0);
            due("sum without ITEMS", x.sum(0, true), 0);
            due("sum without ITEMS", x.sum(0, false), 0);
        }
        faultsTold(x, 1, 3, 0);
    }

    private static void crest() {
        promise = 18;
        TideVault x = withNumberRows(4);
        for (int kind = 2; kind <= 8; kind++) {
            int slot = kind - 1;
            due("all the same", x.crest(slot), 0);
            x.set(slot, 1, kind, 9);
            x.set(slot, 3, kind, 9);
            x.set(slot, 2, kind, kind == 3 ? 3 : -3);
            due("crest(" + slot + ")", x.crest(slot), 1);
            x.set(slot, 3, kind, 10);
            due("crest(" + slot + ")", x.crest(slot), 3);
            x.fill(slot, kind, kind == 3 ? 5 : -9);
            x.set(slot, 2, kind, kind == 3 ? 7 : -8);
            due("crest(" + slot + ")", x.crest(slot), 2);
        }
        x.fill(5, 6, 1L << 53);
        x.set(5, 2, 6, (1L << 53) + 1);
        due("read as DOUBLES", x.crest(5), 0);
        due("crest(0)", x.crest(0), UNFIT);
        TideVault y = withThings();
        due("crest(0)", y.crest(0), UNFIT);
        due("crest(3)", y.crest(3), UNFIT);
        due("crest(8)", y.crest(8), MISSING);
        due("crest(-1)", y.crest(-1), UNKNOWN);
        due("crest(10)", y.crest(10), UNKNOWN);
        faultsTold(y, 1, 2, 0);
        for (int kind = 1; kind <= 11; kind++) {
            y.make(0, kind, 0);
            due("crest without ITEMS", y.crest(0), -10);
        }
        faultsTold(y, 1, 2, 0);
    }

    private static void differ() {
        promise = 19;
        TideVault x = withNumberRows(3);
        for (int a = 2; a <= 8; a++) {
            x.set(a - 1, 1, a, a >= 7 ? 40 : 5);
        }
        for (int a = 2; a <= 8; a++) {
            for (int b = 2; b <= 8; b++) {
                due("differ(" + (a - 1) + ", " + (b - 1) + ")", x.differ(a - 1, b - 1), 3);
            }
        }
        x.set(6, 2, 7, 1);
        due("differ(6, 4)", x.differ(6, 4), 2);
        due("differ(4, 6)", x.differ(4, 6), 2);
        x.set(4, 0, 5, 1);
        due("differ(6, 4)", x.differ(6, 4), 0);
        x.make(8, 5, 2);
        x.set(8, 1, 5, 5);
        due("the shorter one", x.differ(8, 7), 2);
        due("the shorter one", x.differ(7, 8), 2);
        x.fill(5, 6, 1L << 53);
        x.make(8, 6, 3);
        x.fill(8, 6, (1L << 53) + 1);
        due("read as DOUBLES", x.differ(5, 8), 3);
        due("TRUTHS", x.differ(0, 5), UNFIT);
        due("TRUTHS", x.differ(5, 0), UNFIT);
        differWrong();
    }

    private static void differWrong() {
        TideVault x = withThings();
        due("differ(-1, 5)", x.differ(-1, 5), UNKNOWN);
        due("differ(8, 10)", x.differ(8, 10), UNKNOWN);
        faultsTold(x, 0, 0, 0);
        due("differ(8, 3)", x.differ(8, 3), MISSING);
        due("differ(3, 8)", x.differ(3, 8), UNFIT);
        due("differ(5, 8)", x.differ(5, 8), MISSING);
        due("differ(0, 8)", x.differ(0, 8), MISSING);
        due("differ(0, 5)", x.differ(0, 5), UNFIT);
        due("differ(5, 0)", x.differ(5, 0), UNFIT);
        due("differ(7, 7)", x.differ(7, 7), UNFIT);
        faultsTold(x, 3, 4, 0);
        x.make(9, 9, 0);
        due("differ(9, 7)", x.differ(9, 7), 0);
        due("differ(0, 9)", x.differ(0, 9), 0);
        due("differ(9, 3)", x.differ(9, 3), UNFIT);
        faultsTold(x, 3, 5, 0);
    }

    private static void height() {
        promise = 20;
        TideVault x = withThings();
        x.swap(4, false);
        x.lay(0, 1);
        x.lay(1, 0);
        x.swap(3, false);
        x.lay(0, 0);
        x.swap(5, false);
        x.lay(2, 0);
        due("height(0, 0)", x.height(0, 0), 5);
        due("height(0, 1)", x.height(0, 1), 6);
        due("height(1, 0)", x.height(1, 0), 6);
        due("height(1, 1)", x.height(1, 1), -1);
        due("height(2, 1)", x.height(2, 1), -1);
        due("height(-1, 0)", x.height(-1, 0), UNKNOWN);
        due("height(10, 0)", x.height(10, 0), UNKNOWN);
        faultsTold(x, 0, 0, 0);
        due("height(2, 0)", x.height(2, 0), UNFIT);
        due("height(5, 0)", x.height(5, 0), UNFIT);
        due("height(3, 9)", x.height(3, 9), UNFIT);
        due("height(5, 3)", x.height(5, 3), PLACE);
        due("height(0, 2)", x.height(0, 2), PLACE);
        due("height(0, -1)", x.height(0, -1), PLACE);
        due("height(8, 0)", x.height(8, 0), MISSING);
        faultsTold(x, 1, 3, 3);
    }

    private static void told() {
        promise = 21;
        TideVault x = withThings();
        due("told(0)", x.told(0), 8);
        x.grip(12, 3);
        x.grip(5, 3);
        due("told(0)", x.told(0), 9);
        x.carry(8, 0, 8, 0, 12, 5);
        x.fill(0, 5, 1);
        x.differ(7, 7);
        x.read(5, 9, 5);
        faultsTold(x, 1, 2, 1);
        faultsTold(x, 1, 2, 1);
        due("told(4)", x.told(4), OUTSIDE);
        due("told(-1)", x.told(-1), OUTSIDE);
        due("told(MAX)", x.told(Integer.MAX_VALUE), OUTSIDE);
        due("told(0)", x.told(0), 9);
    }

    public static void main(String[] args) {
        newObject();
        make();
        share();
        kind();
        length();
        read();
        set();
        profile();
        grip();
        lift();
        lay();
        swap();
        hand();
        carry();
        went();
        fill();
        sum();
        crest();
        differ();
        height();
        told();
        System.out.println(asked + " answers, " + wrong + " not as due");
        if (wrong != 0) {
            System.exit(1);
        }
    }
}

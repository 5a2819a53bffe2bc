/**
 * A run of calls on a new vault, as in x.make(0, 5, 3).is(1). Each answer is looked at under the sentence of the
 * document that was named last, so that what is not as due tells which sentence is broken.
 */
final class Run {
    static final int UNKNOWN = -1, OUTSIDE = -2, FULL = -3, MISSING = -11, UNFIT = -12, PLACE = -13;
    static final long LOST = Long.MIN_VALUE;

    /** By kind less 1, the kinds that it widens to: the sum of 2 to the kind less 1. */
    private static final int[] REACHED = {1, 250, 244, 248, 240, 224, 192, 128};

    private static final int MOST_CALLS = 512;

    private static String sentence = "";
    private static int sentences = 0;
    private static int asked = 0;
    private static int wrong = 0;

    private final TideVault vault = new TideVault();
    private int calls = 0;

    static void sentence(String words) {
        sentence = words;
        sentences++;
    }

    static void same(String what, Object got, Object due) {
        asked++;
        if (!got.equals(due)) {
            wrong++;
            System.out.println("\"" + sentence + "\": " + what + " answered " + got + ", due is " + due);
        }
    }

    static void end() {
        System.out.println(sentences + " sentences, " + asked + " answers, " + wrong + " not as due");
        if (wrong != 0) {
            System.exit(1);
        }
    }

    static boolean widens(int from, int to) {
        return (REACHED[from - 1] >> (to - 1) & 1) == 1;
    }

    static int kindsReached(int kind) {
        return REACHED[kind - 1];
    }

    static long bits(float f) {
        return Float.floatToIntBits(f);
    }

    static long bits(double d) {
        return Double.doubleToLongBits(d);
    }

    /** Rows of all kinds of numbers: kind k in slot k less 1. */
    static Run withNumberRows(int n) {
        Run x = new Run();
        for (int kind = 1; kind <= 8; kind++) {
            x.make(kind - 1, kind, n).is(1);
        }
        return x;
    }

    /** Slots: 0 PEGS, 1 TALL pegs, 2 ROWS of INTS, 3 a PEG, 4 a TALL one, 5 INTS, 6 DOUBLES, 7 TRUTHS, 8 NOTHING, 9 LONGS. */
    static Run withThings() {
        Run x = new Run();
        x.make(0, 9, 2).is(1);
        x.make(1, 10, 2).is(1);
        x.make(2, 11, 2).is(1);
        x.make(3, 12, 5).is(1);
        x.make(4, 13, 6).is(1);
        x.make(5, 5, 3).is(1);
        x.make(6, 8, 3).is(1);
        x.make(7, 1, 3).is(1);
        x.make(9, 6, 3).is(1);
        return x;
    }

    void faults(int missing, int unfit, int place) {
        told(1).is(missing);
        told(2).is(unfit);
        told(3).is(place);
    }

    void holds(int kind, long number) {
        hand(0).is(kind);
        hand(1).is(number);
    }

    /** All that can be seen of the vault without changing it; the faults are told apart from it. */
    String state() {
        StringBuilder text = new StringBuilder();
        for (int slot = 0; slot < 10; slot++) {
            int kind = vault.kind(slot);
            text.append(kind);
            int size = kind >= 1 && kind <= 11 ? vault.length(slot) : 0;
            for (int i = 0; i < size; i++) {
                long item = kind <= 8 ? vault.read(slot, i, kind) : kind <= 10 ? vault.height(slot, i) : 0;
                text.append(i == 0 ? ":" : ",").append(item);
            }
            text.append("; ");
        }
        text.append("hand ").append(vault.hand(0)).append(' ').append(vault.hand(1));
        text.append("; made ").append(vault.told(0));
        return text.toString();
    }

    private Answer answer(long got, String name, Object... arguments) {
        calls++;
        StringBuilder text = new StringBuilder(name).append('(');
        for (int i = 0; i < arguments.length; i++) {
            text.append(i == 0 ? "" : ", ").append(arguments[i]);
        }
        text.append(')');
        if (calls > MOST_CALLS) {
            same(text + " as call " + calls, "free", "one of the first " + MOST_CALLS);
        }
        return new Answer(text.toString(), got);
    }

    record Answer(String call, long got) {
        void is(long due) {
            same(call, got, due);
        }
    }

    Answer make(int slot, int kind, int n) {
        return answer(vault.make(slot, kind, n), "make", slot, kind, n);
    }

    Answer share(int slot, int from) {
        return answer(vault.share(slot, from), "share", slot, from);
    }

    Answer kind(int slot) {
        return answer(vault.kind(slot), "kind", slot);
    }

    Answer length(int slot) {
        return answer(vault.length(slot), "length", slot);
    }

    Answer read(int slot, int i, int as) {
        return answer(vault.read(slot, i, as), "read", slot, i, as);
    }

    Answer set(int slot, int i, int as, long v) {
        return answer(vault.set(slot, i, as, v), "set", slot, i, as, v);
    }

    Answer profile(int slot, int i) {
        return answer(vault.profile(slot, i), "profile", slot, i);
    }

    Answer grip(int kind, long v) {
        return answer(vault.grip(kind, v), "grip", kind, v);
    }

    Answer lift(int slot, int i) {
        return answer(vault.lift(slot, i), "lift", slot, i);
    }

    Answer lay(int slot, int i) {
        return answer(vault.lay(slot, i), "lay", slot, i);
    }

    Answer swap(int slot, boolean back) {
        return answer(vault.swap(slot, back), "swap", slot, back);
    }

    Answer hand(int what) {
        return answer(vault.hand(what), "hand", what);
    }

    Answer carry(int from, int i, int to, int k, int n, int as) {
        return answer(vault.carry(from, i, to, k, n, as), "carry", from, i, to, k, n, as);
    }

    Answer went() {
        return answer(vault.went(), "went");
    }

    Answer fill(int slot, int as, long v) {
        return answer(vault.fill(slot, as, v), "fill", slot, as, v);
    }

    Answer sum(int slot, boolean exact) {
        return answer(vault.sum(slot, exact), "sum", slot, exact);
    }

    Answer crest(int slot) {
        return answer(vault.crest(slot), "crest", slot);
    }

    Answer differ(int a, int b) {
        return answer(vault.differ(a, b), "differ", a, b);
    }

    Answer height(int slot, int i) {
        return answer(vault.height(slot, i), "height", slot, i);
    }

    Answer told(int what) {
        return answer(vault.told(what), "told", what);
    }
}

import java.util.function.Consumer;
import java.util.function.Function;

/** Each sentence of "What it is" and "Terms" that names a boundary case, by itself. */
public final class TermsTest {
    private static final int MISSING = Run.MISSING, UNFIT = Run.UNFIT, PLACE = Run.PLACE;
    private static final int UNKNOWN = Run.UNKNOWN, OUTSIDE = Run.OUTSIDE, FULL = Run.FULL;
    private static final long LOST = Run.LOST;
    private static final int FIRST_INT = Integer.MIN_VALUE, LAST_INT = Integer.MAX_VALUE;
    private static final long FIRST_LONG = Long.MIN_VALUE, LAST_LONG = Long.MAX_VALUE;
    private static final int[] NO_SLOTS = {-1, 10, FIRST_INT, LAST_INT};
    private static final int[] NO_NUMBER_KINDS = {0, 9, -1, 12, 13, 33, FIRST_INT, LAST_INT};
    private static final int[] NO_PLACES = {-1, 3, 12, FIRST_INT, LAST_INT};

    private static void callsInAll() {
        Run.sentence("An object is used for at most 512 calls after it has been made");
        Run x = new Run();
        for (int call = 1; call <= 511; call++) {
            x.length(0).is(MISSING);
        }
        x.told(1).is(511);
    }

    // ---- slots, kinds, the hand

    private static void slots() {
        Run.sentence("SLOTS 0 .. 9");
        Run x = new Run();
        for (int slot = 0; slot <= 9; slot++) {
            x.make(slot, slot + 1, slot).is(1);
        }
        for (int slot = 0; slot <= 9; slot++) {
            x.kind(slot).is(slot + 1);
            x.length(slot).is(slot);
        }
    }

    private static void nothingAtFirst() {
        Run.sentence("SLOTS hold NOTHING (at first)");
        Run x = new Run();
        for (int slot = 0; slot <= 9; slot++) {
            x.kind(slot).is(0);
            x.length(slot).is(MISSING);
        }
    }

    private static void theVerySame() {
        Run.sentence("several may hold the very same one");
        Run x = new Run();
        x.make(0, 5, 12).is(1);
        for (int slot = 1; slot <= 9; slot++) {
            x.share(slot, slot - 1).is(1);
        }
        for (int slot = 0; slot <= 9; slot++) {
            x.set(slot, slot, 5, 100 + slot).is(1);
        }
        for (int slot = 0; slot <= 9; slot++) {
            x.read(9 - slot, slot, 5).is(100 + slot);
        }
        x.told(0).is(1);
    }

    private static void sameKindIsNotTheSame() {
        Run.sentence("the very same one: a new ROW is one of its own");
        Run x = new Run();
        x.make(0, 5, 2).is(1);
        x.make(1, 5, 2).is(1);
        x.set(0, 0, 5, 7).is(1);
        x.read(1, 0, 5).is(0);
    }

    private static void letters() {
        Run.sentence("3 LETTERS (0 to 65535)");
        Run x = new Run();
        x.make(0, 3, 1).is(1);
        long[][] letters = {{0, 0}, {65535, 65535}, {65536, 0}, {-1, 65535}, {32768, 32768}, {-32768, 32768}};
        for (long[] letter : letters) {
            x.set(0, 0, 3, letter[0]).is(1);
            x.read(0, 0, 3).is(letter[1]);
            x.read(0, 0, 5).is(letter[1]);
        }
    }

    private static void tallOnesArePegs() {
        Run.sentence("13 a TALL one (which is a PEG, too)");
        Run x = Run.withThings();
        x.swap(4, false).is(1);
        x.lay(0, 0).is(1);
        x.height(0, 0).is(6);
        x.lift(0, 0).is(1);
        x.holds(13, 6);
        x.lay(1, 0).is(1);
    }

    private static void pegsAreNotTall() {
        Run.sentence("12 a PEG: no TALL one");
        Run x = Run.withThings();
        x.swap(3, false).is(1);
        x.lay(0, 0).is(1);
        x.lift(0, 0).is(1);
        x.lay(1, 0).is(UNFIT);
        x.height(1, 0).is(-1);
    }

    private static void handAtFirst() {
        Run.sentence("THE HAND (which holds NOTHING at first)");
        Run x = new Run();
        x.holds(0, 0);
        x.swap(0, true).is(1);
        x.kind(0).is(0);
        x.make(1, 9, 1).is(1);
        x.lay(1, 0).is(1);
        x.height(1, 0).is(-1);
    }

    private static void numberAlone() {
        Run.sentence("in THE HAND also 1 to 8 one number of that KIND, alone");
        Run x = Run.withThings();
        for (int kind = 1; kind <= 8; kind++) {
            x.grip(12, 3).is(1);
            x.grip(kind, 8).is(1);
            x.hand(0).is(kind);
            x.lay(0, 0).is(UNFIT);
            x.swap(8, true).is(OUTSIDE);
            x.swap(5, false).is(1);
            x.holds(5, 0);
            x.lay(2, 0).is(1);
        }
    }

    // ---- how a number is told and given

    private static void toldTruths() {
        Run.sentence("A number is told as a long: a TRUTH as 1 or 0");
        Run x = new Run();
        x.make(0, 1, 2).is(1);
        x.set(0, 1, 1, LAST_LONG).is(1);
        x.read(0, 0, 1).is(0);
        x.read(0, 1, 1).is(1);
        x.grip(1, -5).is(1);
        x.hand(1).is(1);
    }

    private static void toldFloats() {
        Run.sentence("a FLOAT as its 32 BITS (as an int)");
        Run x = new Run();
        x.make(0, 7, 1).is(1);
        long[] values = {0, 1, -1, 8, -8, LAST_LONG, FIRST_LONG, (1L << 24) - 1, 1 - (1L << 24)};
        for (long v : values) {
            x.set(0, 0, 7, v).is(1);
            x.read(0, 0, 7).is(Run.bits((float) v / 8));
            x.lift(0, 0).is(1);
            x.holds(7, Run.bits((float) v / 8));
        }
        x.set(0, 0, 7, -8).is(1);
        x.read(0, 0, 7).is(-1082130432L);
    }

    private static void toldDoubles() {
        Run.sentence("a DOUBLE as its BITS");
        Run x = new Run();
        x.make(0, 8, 1).is(1);
        long[] values = {0, 1, -1, 8, -8, LAST_LONG, FIRST_LONG, (1L << 53) - 1, 1 - (1L << 53)};
        for (long v : values) {
            x.set(0, 0, 8, v).is(1);
            x.read(0, 0, 8).is(Run.bits((double) v / 8));
            x.lift(0, 0).is(1);
            x.holds(8, Run.bits((double) v / 8));
        }
        x.set(0, 0, 8, -8).is(1);
        x.read(0, 0, 8).is(-4616189618054758400L);
    }

    private static void givenTruths() {
        Run.sentence("It is given as a long v: TRUTHS: v is not 0");
        for (long v : new long[] {0, 1, 2, -1, 256, 1L << 16, 1L << 32, FIRST_LONG, LAST_LONG}) {
            givenIs(1, v, v == 0 ? 0 : 1);
        }
    }

    private static void givenBytes() {
        Run.sentence("BYTES: its lowest 8 BITS");
        long[][] due = {{127, 127}, {128, -128}, {255, -1}, {256, 0}, {-128, -128}, {-129, 127}, {FIRST_LONG, 0},
            {LAST_LONG, -1}, {(1L << 32) + 5, 5}};
        for (long[] pair : due) {
            givenIs(2, pair[0], pair[1]);
        }
    }

    private static void givenLetters() {
        Run.sentence("LETTERS: its lowest 16 BITS");
        long[][] due = {{32767, 32767}, {32768, 32768}, {65535, 65535}, {65536, 0}, {-1, 65535}, {-65536, 0},
            {FIRST_LONG, 0}, {LAST_LONG, 65535}, {(1L << 32) + 5, 5}};
        for (long[] pair : due) {
            givenIs(3, pair[0], pair[1]);
        }
    }

    private static void givenShorts() {
        Run.sentence("SHORTS: its lowest 16 BITS");
        long[][] due = {{32767, 32767}, {32768, -32768}, {65535, -1}, {65536, 0}, {-32768, -32768}, {-32769, 32767},
            {FIRST_LONG, 0}, {LAST_LONG, -1}, {(1L << 32) + 5, 5}};
        for (long[] pair : due) {
            givenIs(4, pair[0], pair[1]);
        }
    }

    private static void givenInts() {
        Run.sentence("INTS: its lowest 32 BITS");
        long[][] due = {{LAST_INT, LAST_INT}, {1L << 31, FIRST_INT}, {(1L << 32) - 1, -1}, {1L << 32, 0},
            {FIRST_INT, FIRST_INT}, {-(1L << 31) - 1, LAST_INT}, {FIRST_LONG, 0}, {LAST_LONG, -1}};
        for (long[] pair : due) {
            givenIs(5, pair[0], pair[1]);
        }
    }

    private static void givenLongs() {
        Run.sentence("LONGS v");
        for (long v : new long[] {0, -1, 1L << 31, 1L << 32, (1L << 53) + 1, FIRST_LONG + 1, LAST_LONG}) {
            givenIs(6, v, v);
        }
        givenIs(6, FIRST_LONG, FIRST_LONG);
    }

    private static void givenFloats() {
        Run.sentence("FLOATS: the nearest to v (as a long is cast), then by 8");
        long[] values = {1, -1, 7, (1L << 24) - 1, 1L << 24, (1L << 24) + 1, (1L << 24) + 2, (1L << 24) + 3,
            -(1L << 24) - 1, -(1L << 24) - 3, (1L << 60) + (1L << 36), (1L << 60) + (1L << 36) + 1,
            (1L << 60) + 3 * (1L << 36), LAST_LONG, FIRST_LONG};
        for (long v : values) {
            givenIs(7, v, Run.bits((float) v / 8));
        }
        givenIs(7, 1, Run.bits(0.125f));
        givenIs(7, (1L << 24) + 1, Run.bits(2097152.0f));
        givenIs(7, (1L << 24) + 3, Run.bits(2097152.5f));
    }

    private static void givenDoubles() {
        Run.sentence("DOUBLES: the nearest to v (as a long is cast), then by 8");
        long[] values = {1, -1, 7, (1L << 53) - 1, 1L << 53, (1L << 53) + 1, (1L << 53) + 2, (1L << 53) + 3,
            -(1L << 53) - 1, -(1L << 53) - 3, (1L << 62) + (1L << 9), (1L << 62) + (1L << 9) + 1, LAST_LONG,
            FIRST_LONG};
        for (long v : values) {
            givenIs(8, v, Run.bits((double) v / 8));
        }
        givenIs(8, 1, Run.bits(0.125));
        givenIs(8, (1L << 53) + 1, Run.bits(1125899906842624.0));
        givenIs(8, (1L << 53) + 3, Run.bits(1125899906842624.5));
    }

    /** By set(), by grip() with lay(), and by fill(). */
    private static void givenIs(int kind, long v, long told) {
        Run x = new Run();
        x.make(0, kind, 3).is(1);
        x.set(0, 0, kind, v).is(1);
        x.read(0, 0, kind).is(told);
        x.grip(kind, v).is(1);
        x.holds(kind, told);
        x.lay(0, 1).is(1);
        x.read(0, 1, kind).is(told);
        x.fill(0, kind, v).is(3);
        x.read(0, 2, kind).is(told);
    }

    // ---- what widens

    private static void widens() {
        Run.sentence("WIDENS: a BYTE to a SHORT, INT, LONG, FLOAT, DOUBLE; .. a FLOAT to a DOUBLE");
        for (int from = 1; from <= 8; from++) {
            for (int to = 1; to <= 8; to++) {
                if (from != to) {
                    widensByEachCall(from, to, Run.widens(from, to));
                }
            }
        }
    }

    private static void toItself() {
        Run.sentence("each KIND to itself");
        for (int kind = 1; kind <= 8; kind++) {
            widensByEachCall(kind, kind, true);
        }
    }

    private static void widensByEachCall(int from, int to, boolean fits) {
        Run x = new Run();
        x.make(0, from, 2).is(1);
        x.make(1, to, 2).is(1);
        x.fill(0, from, 9).is(2);
        long told = toldDue(from, to);
        x.read(0, 1, to).is(fits ? told : LOST);
        x.set(1, 1, from, 9).is(fits ? 1 : UNFIT);
        x.read(1, 1, to).is(fits ? told : 0);
        x.fill(1, to, 0).is(2);
        x.lift(0, 0).is(1);
        x.lay(1, 0).is(fits ? 1 : UNFIT);
        x.read(1, 0, to).is(fits ? told : 0);
        x.fill(1, to, 0).is(2);
        x.carry(0, 0, 1, 0, 2, from).is(fits ? 2 : UNFIT);
        x.carry(0, 0, 1, 0, 2, to).is(fits ? 2 : UNFIT);
        x.read(1, 1, to).is(fits ? told : 0);
        x.fill(1, from, 9).is(fits ? 2 : UNFIT);
    }

    /** How 9, given as one kind, is told as another one. */
    private static long toldDue(int from, int to) {
        double number = from == 1 ? 1 : from >= 7 ? 1.125 : 9;
        return to == 7 ? Run.bits((float) number) : to == 8 ? Run.bits(number) : (long) number;
    }

    private static void longsToFloats() {
        Run.sentence("a LONG to a FLOAT (to the nearest, of two the even one)");
        long[] values = {(1L << 24) + 1, (1L << 24) + 3, -(1L << 24) - 1, -(1L << 24) - 3, (1L << 25) + 2,
            (1L << 25) + 6, (1L << 40) + (1L << 16), (1L << 40) + (1L << 16) + 1, (1L << 40) + (1L << 16) - 1,
            (1L << 60) + (1L << 36) + 1, -(1L << 60) - (1L << 36) - 1, (1L << 62) - 1, LAST_LONG, FIRST_LONG};
        for (long v : values) {
            widenedIs(6, v, 7, Run.bits((float) v));
        }
        widenedIs(6, (1L << 24) + 1, 7, Run.bits(16777216.0f));
        widenedIs(6, (1L << 24) + 3, 7, Run.bits(16777220.0f));
    }

    private static void longsToDoubles() {
        Run.sentence("a LONG to a DOUBLE (to the nearest, of two the even one)");
        long[] values = {(1L << 53) + 1, (1L << 53) + 3, -(1L << 53) - 1, -(1L << 53) - 3, (1L << 54) + 2,
            (1L << 54) + 6, (1L << 62) + (1L << 9), (1L << 62) + (1L << 9) + 1, (1L << 62) + (1L << 9) - 1,
            (1L << 62) - 1, LAST_LONG, LAST_LONG - 512, FIRST_LONG};
        for (long v : values) {
            widenedIs(6, v, 8, Run.bits((double) v));
        }
        widenedIs(6, (1L << 53) + 1, 8, Run.bits(9007199254740992.0));
        widenedIs(6, (1L << 53) + 3, 8, Run.bits(9007199254740996.0));
    }

    private static void intsToFloats() {
        Run.sentence("an INT to a FLOAT (to the nearest, of two the even one), to a DOUBLE as it is");
        int[] values = {(1 << 24) + 1, (1 << 24) + 3, -(1 << 24) - 1, -(1 << 24) - 3, LAST_INT, FIRST_INT,
            FIRST_INT + 1, LAST_INT - 64, LAST_INT - 63};
        for (int v : values) {
            widenedIs(5, v, 7, Run.bits((float) v));
            widenedIs(5, v, 8, Run.bits((double) v));
        }
    }

    private static void floatsToDoubles() {
        Run.sentence("a FLOAT to a DOUBLE");
        long[] values = {0, 1, -1, (1L << 24) - 1, 1 - (1L << 24), (1L << 24) + 1, LAST_LONG, FIRST_LONG};
        for (long v : values) {
            widenedIs(7, v, 8, Run.bits((double) ((float) v / 8)));
        }
    }

    /** By read(), by set(), by lay() and by carry() both ways. */
    private static void widenedIs(int from, long v, int to, long told) {
        Run x = new Run();
        x.make(0, from, 1).is(1);
        x.make(1, to, 1).is(1);
        x.set(0, 0, from, v).is(1);
        x.read(0, 0, to).is(told);
        x.set(1, 0, from, v).is(1);
        x.read(1, 0, to).is(told);
        x.set(1, 0, to, 0).is(1);
        x.lift(0, 0).is(1);
        x.lay(1, 0).is(1);
        x.read(1, 0, to).is(told);
        x.set(1, 0, to, 0).is(1);
        x.carry(0, 0, 1, 0, 1, from).is(1);
        x.read(1, 0, to).is(told);
        x.set(1, 0, to, 0).is(1);
        x.carry(0, 0, 1, 0, 1, to).is(1);
        x.read(1, 0, to).is(told);
    }

    // ---- faults

    /** A call, what it answers, and the sort of fault that is counted for it (0: none). */
    private static void call(Consumer<Run> before, Function<Run, Run.Answer> call, long due, int fault) {
        Run x = Run.withThings();
        x.fill(5, 5, 4).is(3);
        before.accept(x);
        String state = x.state();
        x.faults(0, 0, 0);
        x.went().is(3);
        call.apply(x).is(due);
        x.faults(fault == 1 ? 1 : 0, fault == 2 ? 1 : 0, fault == 3 ? 1 : 0);
        Run.same("the state", x.state(), state);
        if (fault == 0) {
            x.went().is(3);
        }
    }

    private static void call(Function<Run, Run.Answer> call, long due, int fault) {
        call(x -> { }, call, due, fault);
    }

    private static void missing() {
        Run.sentence("1 MISSING: there is NOTHING where a ROW must be");
        call(x -> x.length(8), MISSING, 1);
        call(x -> x.read(8, 0, 5), LOST, 1);
        call(x -> x.set(8, 0, 5, 1), MISSING, 1);
        call(x -> x.profile(8, 0), MISSING, 1);
        call(x -> x.lift(8, 0), MISSING, 1);
        call(x -> x.lay(8, 0), MISSING, 1);
        call(x -> x.carry(8, 0, 5, 0, 1, 5), MISSING, 1);
        call(x -> x.carry(5, 0, 8, 0, 1, 5), MISSING, 1);
        call(x -> x.fill(8, 5, 1), MISSING, 1);
        call(x -> x.sum(8, true), LOST, 1);
        call(x -> x.sum(8, false), LOST, 1);
        call(x -> x.crest(8), MISSING, 1);
        call(x -> x.differ(8, 5), MISSING, 1);
        call(x -> x.differ(5, 8), MISSING, 1);
        call(x -> x.height(8, 0), MISSING, 1);
    }

    private static void noRow() {
        Run.sentence("2 UNFIT: what is there is no ROW");
        for (int peg = 3; peg <= 4; peg++) {
            int slot = peg;
            call(x -> x.length(slot), UNFIT, 2);
            call(x -> x.read(slot, 0, 5), LOST, 2);
            call(x -> x.set(slot, 0, 5, 1), UNFIT, 2);
            call(x -> x.profile(slot, 0), UNFIT, 2);
            call(x -> x.lift(slot, 0), UNFIT, 2);
            call(x -> x.lay(slot, 0), UNFIT, 2);
            call(x -> x.carry(slot, 0, 5, 0, 1, 5), UNFIT, 2);
            call(x -> x.carry(5, 0, slot, 0, 1, 5), UNFIT, 2);
            call(x -> x.fill(slot, 5, 1), UNFIT, 2);
            call(x -> x.sum(slot, true), LOST, 2);
            call(x -> x.sum(slot, false), LOST, 2);
            call(x -> x.crest(slot), UNFIT, 2);
            call(x -> x.differ(slot, 5), UNFIT, 2);
            call(x -> x.differ(5, slot), UNFIT, 2);
            call(x -> x.height(slot, 0), UNFIT, 2);
        }
    }

    private static void noRowOfNumbers() {
        Run.sentence("of what is read or set by a KIND: no ROW of numbers");
        for (int row = 0; row <= 2; row++) {
            int slot = row;
            call(x -> x.read(slot, 0, 5), LOST, 2);
            call(x -> x.set(slot, 0, 5, 1), UNFIT, 2);
            call(x -> x.carry(slot, 0, 5, 0, 1, 5), UNFIT, 2);
            call(x -> x.carry(5, 0, slot, 0, 1, 5), UNFIT, 2);
            call(x -> x.fill(slot, 5, 1), UNFIT, 2);
            call(x -> x.sum(slot, true), LOST, 2);
            call(x -> x.sum(slot, false), LOST, 2);
            call(x -> x.crest(slot), UNFIT, 2);
            call(x -> x.differ(slot, 5), UNFIT, 2);
            call(x -> x.differ(5, slot), UNFIT, 2);
        }
    }

    private static void nothingIntoNumbers() {
        Run.sentence("to set NOTHING into a ROW of numbers");
        for (int slot : new int[] {5, 6, 7, 9}) {
            call(x -> x.grip(0, 0).is(1), x -> x.lay(slot, 0), UNFIT, 2);
        }
    }

    private static void place() {
        Run.sentence("3 PLACE: it is outside of the ROW");
        for (int i : NO_PLACES) {
            call(x -> x.read(5, i, 5), LOST, 3);
            call(x -> x.set(5, i, 5, 1), PLACE, 3);
            call(x -> x.profile(5, i), PLACE, 3);
            call(x -> x.lift(5, i), PLACE, 3);
            call(x -> x.lift(0, i), PLACE, 3);
            call(x -> x.grip(5, 1).is(1), x -> x.lay(5, i), PLACE, 3);
            call(x -> x.grip(12, 1).is(1), x -> x.lay(0, i), PLACE, 3);
            call(x -> x.carry(5, i, 9, 0, 1, 5), PLACE, 3);
            call(x -> x.carry(5, 0, 9, i, 1, 5), PLACE, 3);
            call(x -> x.height(0, i), PLACE, 3);
        }
    }

    private static void placeInNoItems() {
        Run.sentence("3 PLACE: every place is outside of a ROW without ITEMS");
        call(x -> x.make(5, 5, 0).is(1), x -> x.read(5, 0, 5), LOST, 3);
        call(x -> x.make(5, 5, 0).is(1), x -> x.set(5, 0, 5, 1), PLACE, 3);
        call(x -> x.make(5, 5, 0).is(1), x -> x.profile(5, 0), PLACE, 3);
        call(x -> x.make(5, 5, 0).is(1), x -> x.lift(5, 0), PLACE, 3);
        call(x -> x.make(0, 9, 0).is(1), x -> x.lay(0, 0), PLACE, 3);
        call(x -> x.make(0, 9, 0).is(1), x -> x.height(0, 0), PLACE, 3);
    }

    private static void firstAndLastPlaces() {
        Run.sentence("3 PLACE: the first and the last of 12 ITEMS are in the ROW");
        Run x = new Run();
        x.make(0, 5, 12).is(1);
        x.make(1, 9, 12).is(1);
        for (int i = 0; i <= 11; i += 11) {
            x.set(0, i, 5, 7 + i).is(1);
            x.read(0, i, 5).is(7 + i);
            x.profile(0, i).is(240);
            x.lift(0, i).is(1);
            x.lay(0, 11 - i).is(1);
            x.grip(12, i).is(1);
            x.lay(1, i).is(1);
            x.height(1, i).is(i);
        }
        x.faults(0, 0, 0);
    }

    private static void readWidens() {
        Run.sentence("2 UNFIT again: the ROW's KIND does not WIDEN to the one that is read");
        call(x -> x.read(5, 0, 4), LOST, 2);
        call(x -> x.read(6, 0, 7), LOST, 2);
        call(x -> x.read(7, 0, 2), LOST, 2);
        call(x -> x.read(9, 0, 5), LOST, 2);
        call(x -> x.carry(9, 0, 6, 0, 1, 5), UNFIT, 2);
        call(x -> x.sum(6, true), LOST, 2);
        call(x -> x.sum(7, true), LOST, 2);
        call(x -> x.sum(7, false), LOST, 2);
        call(x -> x.crest(7), UNFIT, 2);
        call(x -> x.differ(7, 5), UNFIT, 2);
        call(x -> x.differ(5, 7), UNFIT, 2);
    }

    private static void setWidens() {
        Run.sentence("2 UNFIT again: the one that is set does not WIDEN to the ROW's");
        call(x -> x.set(5, 0, 6, 1), UNFIT, 2);
        call(x -> x.set(7, 0, 5, 1), UNFIT, 2);
        call(x -> x.set(9, 0, 8, 1), UNFIT, 2);
        call(x -> x.carry(9, 0, 5, 0, 1, 6), UNFIT, 2);
        call(x -> x.fill(5, 6, 1), UNFIT, 2);
        call(x -> x.grip(6, 1).is(1), x -> x.lay(5, 0), UNFIT, 2);
        call(x -> x.grip(1, 1).is(1), x -> x.lay(6, 0), UNFIT, 2);
    }

    private static void noNumberAtAll() {
        Run.sentence("what is set is no number at all");
        for (int slot = 0; slot <= 6; slot++) {
            int held = slot;
            call(x -> x.swap(held, false).is(1), x -> x.lay(5, 0), UNFIT, 2);
            call(x -> x.swap(held, false).is(1), x -> x.lay(7, 2), UNFIT, 2);
        }
    }

    private static void aNumberIntoThings() {
        Run.sentence("a THING that the ROW does not hold: a number alone is none");
        for (int kind = 1; kind <= 8; kind++) {
            for (int row = 0; row <= 2; row++) {
                int held = kind;
                int slot = row;
                call(x -> x.grip(held, 1).is(1), x -> x.lay(slot, 0), UNFIT, 2);
            }
        }
    }

    private static void pegsHold() {
        Run.sentence("PEGS hold all PEGS");
        rowHolds(9, new int[] {12, 13});
    }

    private static void tallPegsHold() {
        Run.sentence("TALL ones TALL ones alone");
        rowHolds(10, new int[] {13});
    }

    private static void rowsHold() {
        Run.sentence("ROWS of ROWS those of INTS");
        rowHolds(11, new int[] {5});
    }

    private static void rowHolds(int rowKind, int[] held) {
        for (int kind = 1; kind <= 13; kind++) {
            boolean fits = kind == held[0] || kind == held[held.length - 1];
            Run x = new Run();
            x.make(0, rowKind, 1).is(1);
            x.make(1, kind, 7).is(1);
            x.swap(1, false).is(1);
            x.lay(0, 0).is(fits ? 1 : UNFIT);
            x.faults(0, fits ? 0 : 1, 0);
            x.grip(0, 0).is(1);
            x.lift(0, 0).is(1);
            x.hand(0).is(fits ? kind : 0);
        }
    }

    private static void noRowInItself() {
        Run.sentence("ROWS of ROWS those of INTS: not itself, and not another ROW of ROWS");
        Run x = new Run();
        x.make(0, 11, 1).is(1);
        x.make(1, 11, 1).is(1);
        x.swap(0, false).is(1);
        x.lay(0, 0).is(UNFIT);
        x.lay(1, 0).is(UNFIT);
        x.height(0, 0).is(-1);
    }

    private static void rowsHoldNothing() {
        Run.sentence("all of them NOTHING");
        int[] held = {12, 13, 5};
        for (int kind = 9; kind <= 11; kind++) {
            Run x = new Run();
            x.make(0, kind, 1).is(1);
            x.make(1, held[kind - 9], 3).is(1);
            x.swap(1, false).is(1);
            x.lay(0, 0).is(1);
            x.grip(0, 0).is(1);
            x.lay(0, 0).is(1);
            x.swap(1, false).is(1);
            x.lift(0, 0).is(1);
            x.holds(0, 0);
            x.height(0, 0).is(-1);
        }
    }

    private static void missingIsFirst() {
        Run.sentence("FAULTS, of several the first here: MISSING ahead of UNFIT and PLACE");
        call(x -> x.read(8, 99, 1), LOST, 1);
        call(x -> x.set(8, -1, 1, 1), MISSING, 1);
        call(x -> x.profile(8, 99), MISSING, 1);
        call(x -> x.lift(8, -1), MISSING, 1);
        call(x -> x.grip(0, 0).is(1), x -> x.lay(8, 99), MISSING, 1);
        call(x -> x.grip(1, 0).is(1), x -> x.lay(8, -1), MISSING, 1);
        call(x -> x.carry(8, 99, 3, 99, 12, 1), MISSING, 1);
        call(x -> x.height(8, -1), MISSING, 1);
    }

    private static void noRowAheadOfPlace() {
        Run.sentence("FAULTS, of several the first here: UNFIT (no ROW, no ROW of numbers) ahead of PLACE");
        for (int i : NO_PLACES) {
            call(x -> x.read(3, i, 5), LOST, 2);
            call(x -> x.read(0, i, 5), LOST, 2);
            call(x -> x.set(4, i, 5, 1), UNFIT, 2);
            call(x -> x.set(1, i, 5, 1), UNFIT, 2);
            call(x -> x.profile(3, i), UNFIT, 2);
            call(x -> x.profile(2, i), UNFIT, 2);
            call(x -> x.lift(3, i), UNFIT, 2);
            call(x -> x.lay(3, i), UNFIT, 2);
            call(x -> x.carry(2, i, 5, 0, 1, 5), UNFIT, 2);
            call(x -> x.carry(5, 0, 2, i, 1, 5), UNFIT, 2);
            call(x -> x.height(4, i), UNFIT, 2);
        }
    }

    private static void nothingAheadOfPlace() {
        Run.sentence("FAULTS, of several the first here: UNFIT (NOTHING into numbers) ahead of PLACE");
        for (int i : NO_PLACES) {
            call(x -> x.grip(0, 0).is(1), x -> x.lay(5, i), UNFIT, 2);
        }
        call(x -> x.make(5, 5, 0).is(1), x -> x.lay(5, 0), UNFIT, 2);
        call(x -> x.grip(0, 0).is(1), x -> x.lay(0, 2), PLACE, 3);
    }

    private static void placeAheadOfUnfit() {
        Run.sentence("FAULTS, of several the first here: PLACE ahead of UNFIT again");
        for (int i : NO_PLACES) {
            call(x -> x.read(5, i, 1), LOST, 3);
            call(x -> x.set(5, i, 8, 1), PLACE, 3);
            call(x -> x.grip(8, 1).is(1), x -> x.lay(5, i), PLACE, 3);
            call(x -> x.swap(3, false).is(1), x -> x.lay(5, i), PLACE, 3);
            call(x -> x.swap(3, false).is(1), x -> x.lay(1, i), PLACE, 3);
            call(x -> x.grip(5, 1).is(1), x -> x.lay(0, i), PLACE, 3);
            call(x -> x.carry(5, i, 9, 0, 1, 1), PLACE, 3);
            call(x -> x.carry(9, 0, 5, i, 1, 6), PLACE, 3);
            call(x -> x.height(5, i), PLACE, 3);
        }
    }

    private static void faultAnswers() {
        Run.sentence("Calls answer -10 less the FAULT");
        call(x -> x.length(8), -10 - 1, 1);
        call(x -> x.length(3), -10 - 2, 2);
        call(x -> x.lift(5, 3), -10 - 3, 3);
    }

    private static void lostAnswers() {
        Run.sentence("those that tell a long LOST");
        Run.same("LOST", TideVault.LOST, Long.MIN_VALUE);
        call(x -> x.read(8, 0, 5), Long.MIN_VALUE, 1);
        call(x -> x.read(3, 0, 5), Long.MIN_VALUE, 2);
        call(x -> x.read(5, 3, 5), Long.MIN_VALUE, 3);
        call(x -> x.sum(8, true), Long.MIN_VALUE, 1);
        call(x -> x.sum(3, false), Long.MIN_VALUE, 2);
    }

    private static void noHalfWay() {
        Run.sentence("Nothing changes but as told: what is set after a FAULT is set as ever");
        Run x = Run.withThings();
        x.set(5, 1, 6, 3).is(UNFIT);
        x.set(5, 3, 5, 3).is(PLACE);
        x.read(5, 1, 5).is(0);
        x.set(5, 1, 5, 3).is(1);
        x.read(5, 1, 5).is(3);
        x.grip(6, 9).is(1);
        x.lay(5, 1).is(UNFIT);
        x.holds(6, 9);
        x.lay(9, 1).is(1);
        x.read(5, 1, 5).is(3);
        x.read(9, 1, 6).is(9);
    }

    // ---- unknown, outside, full

    private static void unknown() {
        Run.sentence("UNKNOWN: there is no such SLOT");
        for (int s : NO_SLOTS) {
            call(x -> x.make(s, 5, 1), UNKNOWN, 0);
            call(x -> x.share(s, 5), UNKNOWN, 0);
            call(x -> x.share(5, s), UNKNOWN, 0);
            call(x -> x.kind(s), UNKNOWN, 0);
            call(x -> x.length(s), UNKNOWN, 0);
            call(x -> x.read(s, 0, 5), LOST, 0);
            call(x -> x.set(s, 0, 5, 1), UNKNOWN, 0);
            call(x -> x.profile(s, 0), UNKNOWN, 0);
            call(x -> x.lift(s, 0), UNKNOWN, 0);
            call(x -> x.lay(s, 0), UNKNOWN, 0);
            call(x -> x.swap(s, false), UNKNOWN, 0);
            call(x -> x.swap(s, true), UNKNOWN, 0);
            call(x -> x.carry(s, 0, 5, 0, 1, 5), UNKNOWN, 0);
            call(x -> x.carry(5, 0, s, 0, 1, 5), UNKNOWN, 0);
            call(x -> x.carry(5, 0, s, 0, 0, 5), UNKNOWN, 0);
            call(x -> x.fill(s, 5, 1), UNKNOWN, 0);
            call(x -> x.sum(s, true), LOST, 0);
            call(x -> x.sum(s, false), LOST, 0);
            call(x -> x.crest(s), UNKNOWN, 0);
            call(x -> x.differ(s, 5), UNKNOWN, 0);
            call(x -> x.differ(5, s), UNKNOWN, 0);
            call(x -> x.height(s, 0), UNKNOWN, 0);
        }
    }

    private static void outsideKinds() {
        Run.sentence("OUTSIDE: a KIND is not as told");
        for (int kind : NO_NUMBER_KINDS) {
            call(x -> x.read(5, 0, kind), LOST, 0);
            call(x -> x.set(5, 0, kind, 1), OUTSIDE, 0);
            call(x -> x.carry(5, 0, 9, 0, 1, kind), OUTSIDE, 0);
            call(x -> x.carry(5, 0, 9, 0, 0, kind), OUTSIDE, 0);
            call(x -> x.fill(5, kind, 1), OUTSIDE, 0);
        }
        for (int kind : new int[] {0, 14, -1, FIRST_INT, LAST_INT}) {
            call(x -> x.make(5, kind, 1), OUTSIDE, 0);
        }
        for (int kind : new int[] {-1, 9, 10, 11, 14, FIRST_INT, LAST_INT}) {
            call(x -> x.grip(kind, 1), OUTSIDE, 0);
        }
    }

    private static void outsideNumbers() {
        Run.sentence("OUTSIDE: a number is not as told");
        for (int n : new int[] {-1, 13, FIRST_INT, LAST_INT}) {
            for (int kind = 1; kind <= 13; kind++) {
                int made = kind;
                call(x -> x.make(5, made, n), OUTSIDE, 0);
            }
            call(x -> x.grip(12, n), OUTSIDE, 0);
            call(x -> x.grip(13, n), OUTSIDE, 0);
            call(x -> x.carry(5, 0, 9, 0, n, 5), OUTSIDE, 0);
        }
        for (int what : new int[] {-1, 4, FIRST_INT, LAST_INT}) {
            call(x -> x.told(what), OUTSIDE, 0);
        }
        for (int what : new int[] {-1, 2, FIRST_INT, LAST_INT}) {
            call(x -> x.hand(what), LOST, 0);
        }
    }

    private static void unknownAheadOfFaults() {
        Run.sentence("UNKNOWN ahead of FAULTS");
        for (int s : NO_SLOTS) {
            call(x -> x.carry(8, 99, s, 0, 1, 5), UNKNOWN, 0);
            call(x -> x.carry(3, 0, s, 99, 12, 1), UNKNOWN, 0);
            call(x -> x.differ(8, s), UNKNOWN, 0);
            call(x -> x.differ(3, s), UNKNOWN, 0);
            call(x -> x.read(s, -1, 1), LOST, 0);
            call(x -> x.set(s, 99, 1, 1), UNKNOWN, 0);
            call(x -> x.lift(s, 99), UNKNOWN, 0);
            call(x -> x.lay(s, -1), UNKNOWN, 0);
            call(x -> x.height(s, 99), UNKNOWN, 0);
            call(x -> x.profile(s, 99), UNKNOWN, 0);
        }
    }

    private static void outsideAheadOfFaults() {
        Run.sentence("OUTSIDE ahead of FAULTS");
        for (int slot : new int[] {8, 3, 0}) {
            call(x -> x.read(slot, 99, 9), LOST, 0);
            call(x -> x.set(slot, 99, 0, 1), OUTSIDE, 0);
            call(x -> x.carry(slot, 99, 8, 99, 13, 5), OUTSIDE, 0);
            call(x -> x.carry(slot, 99, 8, 99, 1, 9), OUTSIDE, 0);
            call(x -> x.fill(slot, 9, 1), OUTSIDE, 0);
        }
    }

    private static void madeAtMost() {
        Run.sentence("MADE: 200 THINGS at most");
        Run x = new Run();
        for (int made = 1; made <= 200; made++) {
            x.make(made % 10, made % 13 + 1, made % 13).is(1);
        }
        x.told(0).is(200);
        for (int kind = 1; kind <= 13; kind++) {
            x.make(0, kind, 1).is(FULL);
        }
        x.grip(12, 1).is(FULL);
        x.grip(13, 1).is(FULL);
        x.told(0).is(200);
        x.faults(0, 0, 0);
    }

    private static void madeByTheHand() {
        Run.sentence("MADE: 200 THINGS at most, those that THE HAND made among them");
        Run x = new Run();
        for (int made = 1; made <= 200; made++) {
            x.grip(12 + made % 2, made % 13).is(1);
        }
        x.told(0).is(200);
        x.grip(13, 0).is(FULL);
        x.make(0, 12, 0).is(FULL);
        x.holds(12, 200 % 13);
        x.kind(0).is(0);
    }

    private static void rowsInRows() {
        Run.sentence("ROWS that stand in ROWS count by themselves");
        Run x = new Run();
        x.make(0, 11, 12).is(1);
        x.told(0).is(1);
        for (int i = 0; i < 12; i++) {
            x.make(1, 5, 12).is(1);
            x.swap(1, false).is(1);
            x.lay(0, i).is(1);
            x.told(0).is(2 + i);
        }
        x.grip(0, 0).is(1);
        for (int i = 0; i < 12; i++) {
            x.lay(0, i).is(1);
        }
        x.told(0).is(13);
    }

    private static void refusedAreNotMade() {
        Run.sentence("MADE: what is refused is not made");
        Run x = new Run();
        x.make(10, 5, 1).is(UNKNOWN);
        x.make(0, 14, 1).is(OUTSIDE);
        x.make(0, 5, 13).is(OUTSIDE);
        x.grip(12, 13).is(OUTSIDE);
        x.grip(9, 1).is(OUTSIDE);
        x.told(0).is(0);
    }

    private static void whatAVaultHolds() {
        callsInAll();
        slots();
        nothingAtFirst();
        theVerySame();
        sameKindIsNotTheSame();
        letters();
        tallOnesArePegs();
        pegsAreNotTall();
        handAtFirst();
        numberAlone();
    }

    private static void numbers() {
        toldTruths();
        toldFloats();
        toldDoubles();
        givenTruths();
        givenBytes();
        givenLetters();
        givenShorts();
        givenInts();
        givenLongs();
        givenFloats();
        givenDoubles();
        widens();
        toItself();
        longsToFloats();
        longsToDoubles();
        intsToFloats();
        floatsToDoubles();
    }

    private static void faults() {
        missing();
        noRow();
        noRowOfNumbers();
        nothingIntoNumbers();
        place();
        placeInNoItems();
        firstAndLastPlaces();
        readWidens();
        setWidens();
        noNumberAtAll();
        aNumberIntoThings();
        pegsHold();
        tallPegsHold();
        rowsHold();
        noRowInItself();
        rowsHoldNothing();
        missingIsFirst();
        noRowAheadOfPlace();
        nothingAheadOfPlace();
        placeAheadOfUnfit();
        faultAnswers();
        lostAnswers();
        noHalfWay();
    }

    private static void refusals() {
        unknown();
        outsideKinds();
        outsideNumbers();
        unknownAheadOfFaults();
        outsideAheadOfFaults();
        madeAtMost();
        madeByTheHand();
        rowsInRows();
        refusedAreNotMade();
    }

    public static void main(String[] args) {
        whatAVaultHolds();
        numbers();
        faults();
        refusals();
        Run.end();
    }
}

/**
 * A vault of tide traces: slots hold rows of numbers, rows of things and pegs, without telling which;
 * a hand takes items out of rows and lays them into others. ../shared/DOC.md tells every promise.
 */
public final class TideVault {
    public static final int UNKNOWN = -1, OUTSIDE = -2, FULL = -3;
    public static final long LOST = Long.MIN_VALUE;

    private static final int DONE = 1;
    private static final int NO_ITEMS = -10;
    private static final int NO_PEG = -1;
    private static final int FAULT_BASE = -10;

    private static final int SLOT_COUNT = 10;
    private static final int MOST_ITEMS = 12;
    private static final int MOST_MADE = 200;

    private static final int NOTHING = 0, TRUTHS = 1, BYTES = 2, LETTERS = 3, SHORTS = 4, INTS = 5, LONGS = 6;
    private static final int FLOATS = 7, DOUBLES = 8, PEGS = 9, TALL_PEGS = 10, INT_ROWS = 11;
    private static final int PEG = 12, TALL_PEG = 13;

    private static final int NO_FAULT = 0, MISSING = 1, UNFIT = 2, PLACE = 3;

    private final Thing[] slots;
    private final int[] faultCounts;
    private int madeCount;
    private int movedCount;
    /** The kind of the number that lies alone in the hand; NOTHING, if the hand holds no number. */
    private int heldNumberKind;
    private long heldNumber;
    private Thing heldThing;

    public TideVault() {
        slots = new Thing[SLOT_COUNT];
        faultCounts = new int[PLACE + 1];
    }

    // ---- slots and what lies in them

    public int make(int slot, int kind, int n) {
        if (!isSlot(slot)) {
            return UNKNOWN;
        }
        if (kind < TRUTHS || kind > TALL_PEG || !isSmall(n)) {
            return OUTSIDE;
        }
        if (madeCount >= MOST_MADE) {
            return FULL;
        }
        madeCount++;
        slots[slot] = newThing(kind, n);
        return DONE;
    }

    public int share(int slot, int from) {
        if (!isSlot(slot) || !isSlot(from)) {
            return UNKNOWN;
        }
        slots[slot] = slots[from];
        return DONE;
    }

    public int kind(int slot) {
        if (!isSlot(slot)) {
            return UNKNOWN;
        }
        return kindOf(slots[slot]);
    }

    public int length(int slot) {
        if (!isSlot(slot)) {
            return UNKNOWN;
        }
        int fault = faultOfRow(slots[slot]);
        return fault == NO_FAULT ? sizeOf(slots[slot]) : faulted(fault);
    }

    // ---- single items by kind

    public long read(int slot, int i, int as) {
        if (!isSlot(slot) || !isNumberKind(as)) {
            return LOST;
        }
        Thing thing = slots[slot];
        int fault = faultOfReading(thing, i, as);
        if (fault == NO_FAULT && thing instanceof NumberRow row) {
            return row.itemAs(i, as);
        }
        faulted(fault);
        return LOST;
    }

    public int set(int slot, int i, int as, long v) {
        if (!isSlot(slot)) {
            return UNKNOWN;
        }
        if (!isNumberKind(as)) {
            return OUTSIDE;
        }
        int fault = putNumber(slots[slot], i, as, Numbers.given(as, v));
        return fault == NO_FAULT ? DONE : faulted(fault);
    }

    public int profile(int slot, int i) {
        if (!isSlot(slot)) {
            return UNKNOWN;
        }
        Thing thing = slots[slot];
        int fault = faultOfNumberPlace(thing, i);
        return fault == NO_FAULT ? Numbers.kindsReached(kindOf(thing)) : faulted(fault);
    }

    // ---- the hand

    public int grip(int kind, long v) {
        boolean isPeg = kind == PEG || kind == TALL_PEG;
        if (kind != NOTHING && !isNumberKind(kind) && !isPeg) {
            return OUTSIDE;
        }
        if (isPeg && !isSmall(v)) {
            return OUTSIDE;
        }
        if (isPeg && madeCount >= MOST_MADE) {
            return FULL;
        }
        if (isPeg) {
            madeCount++;
            holdThing(newThing(kind, (int) v));
        } else if (kind == NOTHING) {
            holdThing(null);
        } else {
            holdNumber(kind, Numbers.given(kind, v));
        }
        return DONE;
    }

    public int lift(int slot, int i) {
        if (!isSlot(slot)) {
            return UNKNOWN;
        }
        Thing thing = slots[slot];
        int fault = faultOfPlace(thing, i);
        if (fault != NO_FAULT) {
            return faulted(fault);
        }
        if (thing instanceof NumberRow row) {
            holdNumber(row.kind, row.items[i]);
        } else if (thing instanceof ThingRow row) {
            holdThing(row.items[i]);
        }
        return DONE;
    }

    public int lay(int slot, int i) {
        if (!isSlot(slot)) {
            return UNKNOWN;
        }
        Thing thing = slots[slot];
        int fault = faultOfLaying(thing, i);
        if (fault != NO_FAULT) {
            return faulted(fault);
        }
        if (thing instanceof NumberRow row) {
            row.putAs(i, heldNumberKind, heldNumber);
        } else if (thing instanceof ThingRow row) {
            row.items[i] = heldThing;
        }
        return DONE;
    }

    public int swap(int slot, boolean back) {
        if (!isSlot(slot)) {
            return UNKNOWN;
        }
        if (!back) {
            holdThing(slots[slot]);
            return DONE;
        }
        if (heldNumberKind != NOTHING) {
            return OUTSIDE;
        }
        slots[slot] = heldThing;
        return DONE;
    }

    public long hand(int what) {
        if (what == 0) {
            return heldNumberKind != NOTHING ? heldNumberKind : kindOf(heldThing);
        }
        if (what != 1) {
            return LOST;
        }
        if (heldNumberKind != NOTHING) {
            return heldNumber;
        }
        return heldThing instanceof Peg peg ? peg.tallness : 0;
    }

    // ---- whole rows

    public int carry(int from, int i, int to, int k, int n, int as) {
        if (!isSlot(from) || !isSlot(to)) {
            return UNKNOWN;
        }
        if (!isSmall(n) || !isNumberKind(as)) {
            return OUTSIDE;
        }
        movedCount = 0;
        for (int j = 0; j < n; j++) {
            int fault = carryItem(slots[from], i + j, slots[to], k + j, as);
            if (fault != NO_FAULT) {
                return faulted(fault);
            }
            movedCount++;
        }
        return n;
    }

    public int went() {
        return movedCount;
    }

    public int fill(int slot, int as, long v) {
        if (!isSlot(slot)) {
            return UNKNOWN;
        }
        if (!isNumberKind(as)) {
            return OUTSIDE;
        }
        movedCount = 0;
        Thing thing = slots[slot];
        int fault = faultOfRow(thing);
        int size = sizeOf(thing);
        long number = Numbers.given(as, v);
        for (int i = 0; i < size && fault == NO_FAULT; i++) {
            fault = putNumber(thing, i, as, number);
            if (fault == NO_FAULT) {
                movedCount++;
            }
        }
        return fault == NO_FAULT ? size : faulted(fault);
    }

    public long sum(int slot, boolean exact) {
        if (!isSlot(slot)) {
            return LOST;
        }
        Thing thing = slots[slot];
        int fault = faultOfReadingAll(thing, exact ? LONGS : DOUBLES);
        if (fault != NO_FAULT) {
            faulted(fault);
            return LOST;
        }
        if (thing instanceof NumberRow row) {
            return exact ? row.wholeTotal() : Numbers.doubleBits(row.total());
        }
        // A row of things faults unless it has no items; the bits of 0.0 are 0, too.
        return 0L;
    }

    public int crest(int slot) {
        if (!isSlot(slot)) {
            return UNKNOWN;
        }
        Thing thing = slots[slot];
        int fault = faultOfReadingAll(thing, DOUBLES);
        if (fault != NO_FAULT) {
            return faulted(fault);
        }
        return thing instanceof NumberRow row ? row.greatestPlace() : NO_ITEMS;
    }

    public int differ(int a, int b) {
        if (!isSlot(a) || !isSlot(b)) {
            return UNKNOWN;
        }
        int fault = faultOfComparing(slots[a], slots[b]);
        if (fault != NO_FAULT) {
            return faulted(fault);
        }
        if (slots[a] instanceof NumberRow first && slots[b] instanceof NumberRow second) {
            return first.sameCount(second);
        }
        // A row of things faults unless the shorter row has no items.
        return 0;
    }

    public int height(int slot, int i) {
        if (!isSlot(slot)) {
            return UNKNOWN;
        }
        Thing thing = slots[slot];
        int fault = faultOfPlace(thing, i);
        if (fault != NO_FAULT) {
            return faulted(fault);
        }
        if (!(thing instanceof ThingRow row)) {
            return faulted(UNFIT);
        }
        if (row.items[i] == null) {
            return NO_PEG;
        }
        return row.items[i] instanceof Peg peg ? peg.tallness : faulted(UNFIT);
    }

    public int told(int what) {
        if (what == 0) {
            return madeCount;
        }
        return what >= MISSING && what <= PLACE ? faultCounts[what] : OUTSIDE;
    }

    // ---- what arguments may be

    private static boolean isSlot(int slot) {
        return slot >= 0 && slot < SLOT_COUNT;
    }

    private static boolean isNumberKind(int kind) {
        return kind >= TRUTHS && kind <= DOUBLES;
    }

    /** Lengths, heights and counts of items share one range; a height in the hand is given as a long. */
    private static boolean isSmall(long n) {
        return n >= 0 && n <= MOST_ITEMS;
    }

    // ---- things

    private static Thing newThing(int kind, int n) {
        if (kind <= DOUBLES) {
            return new NumberRow(kind, n);
        }
        return kind <= INT_ROWS ? new ThingRow(kind, n) : new Peg(kind, n);
    }

    private static int kindOf(Thing thing) {
        return thing == null ? NOTHING : thing.kind;
    }

    private static int sizeOf(Thing thing) {
        return thing instanceof Row row ? row.size : 0;
    }

    private void holdThing(Thing thing) {
        heldNumberKind = NOTHING;
        heldNumber = 0L;
        heldThing = thing;
    }

    private void holdNumber(int kind, long number) {
        heldNumberKind = kind;
        heldNumber = number;
        heldThing = null;
    }

    private static int putNumber(Thing thing, int i, int as, long number) {
        int fault = faultOfSetting(thing, i, as);
        if (fault == NO_FAULT && thing instanceof NumberRow row) {
            row.putAs(i, as, number);
        }
        return fault;
    }

    private static int carryItem(Thing from, int i, Thing to, int k, int as) {
        int fault = faultOfReading(from, i, as);
        if (fault == NO_FAULT && from instanceof NumberRow row) {
            return putNumber(to, k, as, row.itemAs(i, as));
        }
        return fault;
    }

    // ---- faults, each in the document's order

    /** Counts the fault, once a call, and tells the answer for it. */
    private int faulted(int fault) {
        faultCounts[fault]++;
        return FAULT_BASE - fault;
    }

    private static int faultOfRow(Thing thing) {
        if (thing == null) {
            return MISSING;
        }
        return thing instanceof Row ? NO_FAULT : UNFIT;
    }

    private static int faultOfPlace(Thing thing, int i) {
        int fault = faultOfRow(thing);
        if (fault != NO_FAULT) {
            return fault;
        }
        return i >= 0 && i < sizeOf(thing) ? NO_FAULT : PLACE;
    }

    private static int faultOfNumberPlace(Thing thing, int i) {
        if (thing instanceof ThingRow) {
            return UNFIT;
        }
        return faultOfPlace(thing, i);
    }

    private static int faultOfReading(Thing thing, int i, int as) {
        int fault = faultOfNumberPlace(thing, i);
        if (fault != NO_FAULT) {
            return fault;
        }
        return Numbers.widens(kindOf(thing), as) ? NO_FAULT : UNFIT;
    }

    private static int faultOfSetting(Thing thing, int i, int as) {
        int fault = faultOfNumberPlace(thing, i);
        if (fault != NO_FAULT) {
            return fault;
        }
        return Numbers.widens(as, kindOf(thing)) ? NO_FAULT : UNFIT;
    }

    private int faultOfLaying(Thing thing, int i) {
        boolean handIsEmpty = heldNumberKind == NOTHING && heldThing == null;
        if (handIsEmpty && thing instanceof NumberRow) {
            return UNFIT;
        }
        int fault = faultOfPlace(thing, i);
        if (fault != NO_FAULT) {
            return fault;
        }
        return rowTakesHeld(kindOf(thing)) ? NO_FAULT : UNFIT;
    }

    private boolean rowTakesHeld(int rowKind) {
        if (isNumberKind(rowKind)) {
            return Numbers.widens(heldNumberKind, rowKind);
        }
        return heldNumberKind == NOTHING && rowTakesThing(rowKind, kindOf(heldThing));
    }

    private static boolean rowTakesThing(int rowKind, int thingKind) {
        if (thingKind == NOTHING) {
            return true;
        }
        switch (rowKind) {
            case PEGS:
                return thingKind == PEG || thingKind == TALL_PEG;
            case TALL_PEGS:
                return thingKind == TALL_PEG;
            default:
                return thingKind == INTS;
        }
    }

    /** All items of a row have its kind, so the first item faults if any does. */
    private static int faultOfReadingAll(Thing thing, int as) {
        int fault = faultOfRow(thing);
        if (fault != NO_FAULT || sizeOf(thing) == 0) {
            return fault;
        }
        return faultOfReading(thing, 0, as);
    }

    private static int faultOfComparing(Thing first, Thing second) {
        int fault = faultOfRow(first);
        if (fault == NO_FAULT) {
            fault = faultOfRow(second);
        }
        if (fault != NO_FAULT || sizeOf(first) == 0 || sizeOf(second) == 0) {
            return fault;
        }
        fault = faultOfReading(first, 0, DOUBLES);
        return fault == NO_FAULT ? faultOfReading(second, 0, DOUBLES) : fault;
    }

    private abstract static class Thing {
        final int kind;

        Thing(int kind) {
            this.kind = kind;
        }
    }

    private static final class Peg extends Thing {
        final int tallness;

        Peg(int kind, int tallness) {
            super(kind);
            this.tallness = tallness;
        }
    }

    private abstract static class Row extends Thing {
        final int size;

        Row(int kind, int size) {
            super(kind);
            this.size = size;
        }
    }

    private static final class ThingRow extends Row {
        final Thing[] items;

        ThingRow(int kind, int size) {
            super(kind, size);
            items = new Thing[size];
        }
    }

    /** Its items are kept as they are told; the places and kinds given to it have been looked at before. */
    private static final class NumberRow extends Row {
        final long[] items;

        NumberRow(int kind, int size) {
            super(kind, size);
            items = new long[size];
        }

        long itemAs(int i, int as) {
            return Numbers.widened(kind, as, items[i]);
        }

        void putAs(int i, int as, long number) {
            items[i] = Numbers.widened(as, kind, number);
        }

        /** Whole numbers are told as they are, so those that widen to LONGS are summed as they lie. */
        long wholeTotal() {
            long total = 0L;
            for (int i = 0; i < size; i++) {
                total += items[i];
            }
            return total;
        }

        double total() {
            double total = 0.0;
            for (int i = 0; i < size; i++) {
                total = total + Numbers.asDouble(kind, items[i]);
            }
            return total;
        }

        int greatestPlace() {
            if (size == 0) {
                return NO_ITEMS;
            }
            int place = 0;
            double greatest = Numbers.asDouble(kind, items[0]);
            for (int i = 1; i < size; i++) {
                double item = Numbers.asDouble(kind, items[i]);
                if (item > greatest) {
                    place = i;
                    greatest = item;
                }
            }
            return place;
        }

        int sameCount(NumberRow other) {
            int shorter = Math.min(size, other.size);
            for (int i = 0; i < shorter; i++) {
                if (Numbers.asDouble(kind, items[i]) != Numbers.asDouble(other.kind, other.items[i])) {
                    return i;
                }
            }
            return shorter;
        }
    }

    /**
     * Numbers as the document tells them: a long and a kind. Bits are put together and taken apart by hand,
     * as LANGUAGE.md lets in no library for it. Every float and double here is 0.0 or at least 1/8 and at
     * most 2 to the 67 in size, so there is no -0.0, no NaN, no infinity and nothing subnormal to care for.
     */
    private static final class Numbers {
        /** By kind, the kinds that it widens to: the sum of 2 to the kind less 1. NOTHING widens to none. */
        private static final int[] REACHED = {0, 1, 250, 244, 248, 240, 224, 192, 128};

        private static final int FLOAT_FRACTION = 23, FLOAT_BIAS = 127;
        private static final int DOUBLE_FRACTION = 52, DOUBLE_BIAS = 1023;

        static int kindsReached(int kind) {
            return isNumberKind(kind) ? REACHED[kind] : 0;
        }

        static boolean widens(int from, int to) {
            return isNumberKind(to) && (kindsReached(from) >> (to - 1) & 1) == 1;
        }

        static long given(int kind, long v) {
            switch (kind) {
                case TRUTHS:
                    return v != 0L ? 1L : 0L;
                case BYTES:
                    return (byte) v;
                case LETTERS:
                    return (char) v;
                case SHORTS:
                    return (short) v;
                case INTS:
                    return (int) v;
                case FLOATS:
                    return floatBits((float) v / 8.0f);
                case DOUBLES:
                    return doubleBits((double) v / 8.0);
                default:
                    return v;
            }
        }

        static long widened(int from, int to, long number) {
            if (from == to || to <= LONGS) {
                return number;
            }
            // Only whole numbers widen to floats, and straight: by way of a double they would be rounded twice.
            return to == FLOATS ? floatBits((float) number) : doubleBits(asDouble(from, number));
        }

        static double asDouble(int kind, long number) {
            if (kind == FLOATS) {
                return fromBits(number, FLOAT_FRACTION, FLOAT_BIAS);
            }
            return kind == DOUBLES ? fromBits(number, DOUBLE_FRACTION, DOUBLE_BIAS) : (double) number;
        }

        static long floatBits(float value) {
            long bits = bitsOfSize(value < 0.0f ? 0.0f - value : value, FLOAT_FRACTION, FLOAT_BIAS);
            return value < 0.0f ? bits | Integer.MIN_VALUE : bits;
        }

        static long doubleBits(double value) {
            long bits = bitsOfSize(value < 0.0 ? 0.0 - value : value, DOUBLE_FRACTION, DOUBLE_BIAS);
            return value < 0.0 ? bits | Long.MIN_VALUE : bits;
        }

        /** The bits without the sign; halving and doubling lose nothing, so the fraction comes out whole. */
        private static long bitsOfSize(double value, int fractionBits, int bias) {
            if (value == 0.0) {
                return 0L;
            }
            double part = value;
            int exponent = 0;
            for (; part >= 2.0 && exponent < bias; exponent++) {
                part = part / 2.0;
            }
            for (; part < 1.0 && exponent > -bias; exponent--) {
                part = part * 2.0;
            }
            long one = 1L << fractionBits;
            long fraction = (long) ((part - 1.0) * (double) one);
            return ((long) (exponent + bias) << fractionBits) | fraction;
        }

        private static double fromBits(long bits, int fractionBits, int bias) {
            if (bits == 0L) {
                return 0.0;
            }
            long one = 1L << fractionBits;
            double value = (double) ((bits & (one - 1L)) | one);
            int exponent = ((int) (bits >>> fractionBits) & (2 * bias + 1)) - bias - fractionBits;
            for (; exponent > 0; exponent--) {
                value = value * 2.0;
            }
            for (; exponent < 0; exponent++) {
                value = value / 2.0;
            }
            return bits < 0L ? 0.0 - value : value;
        }
    }
}

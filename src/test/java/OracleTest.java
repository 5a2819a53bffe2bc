import java.lang.reflect.Array;

/**
 * Long runs of mixed calls, answered by TideVault and by an oracle that keeps real Java arrays and lets
 * java.lang.reflect.Array widen, refuse and tell what is wrong. The runs are the same each time.
 */
public final class OracleTest {
    private static final int RUNS = 4000, CALLS = 512;

    /** Pegs of the oracle; a tall one is a peg, too. */
    private static class Peg {
        final int height;

        Peg(int height) {
            this.height = height;
        }
    }

    private static final class TallPeg extends Peg {
        TallPeg(int height) {
            super(height);
        }
    }

    private static final class Oracle {
        private static final Class<?>[] ITEM = {null, boolean.class, byte.class, char.class, short.class, int.class,
            long.class, float.class, double.class, Peg.class, TallPeg.class, int[].class};

        final Object[] slots = new Object[10];
        final int[] faults = new int[4];
        Object held;
        int made;
        int went;

        static boolean slot(int slot) {
            return slot >= 0 && slot <= 9;
        }

        static boolean number(int kind) {
            return kind >= 1 && kind <= 8;
        }

        static int kindOf(Object thing) {
            if (thing == null) {
                return 0;
            }
            for (int kind = 1; kind <= 11; kind++) {
                if (thing.getClass().isArray() && thing.getClass().getComponentType() == ITEM[kind]) {
                    return kind;
                }
            }
            if (thing instanceof Peg) {
                return thing instanceof TallPeg ? 13 : 12;
            }
            Class<?>[] boxes = {Boolean.class, Byte.class, Character.class, Short.class, Integer.class, Long.class,
                Float.class, Double.class};
            for (int kind = 1; kind <= 8; kind++) {
                if (boxes[kind - 1] == thing.getClass()) {
                    return kind;
                }
            }
            throw new IllegalStateException();
        }

        static Object box(int kind, long v) {
            switch (kind) {
                case 1: return v != 0;
                case 2: return (byte) v;
                case 3: return (char) v;
                case 4: return (short) v;
                case 5: return (int) v;
                case 6: return v;
                case 7: return (float) v / 8;
                default: return (double) v / 8;
            }
        }

        static long tell(Object box) {
            if (box instanceof Boolean truth) {
                return truth ? 1 : 0;
            }
            if (box instanceof Character letter) {
                return letter;
            }
            if (box instanceof Float f) {
                return Float.floatToRawIntBits(f);
            }
            return box instanceof Double d ? Double.doubleToRawLongBits(d) : ((Number) box).longValue();
        }

        static Object get(Object row, int i, int as) {
            switch (as) {
                case 1: return Array.getBoolean(row, i);
                case 2: return Array.getByte(row, i);
                case 3: return Array.getChar(row, i);
                case 4: return Array.getShort(row, i);
                case 5: return Array.getInt(row, i);
                case 6: return Array.getLong(row, i);
                case 7: return Array.getFloat(row, i);
                default: return Array.getDouble(row, i);
            }
        }

        static void put(Object row, int i, Object box) {
            switch (kindOf(box)) {
                case 1: Array.setBoolean(row, i, (Boolean) box); break;
                case 2: Array.setByte(row, i, (Byte) box); break;
                case 3: Array.setChar(row, i, (Character) box); break;
                case 4: Array.setShort(row, i, (Short) box); break;
                case 5: Array.setInt(row, i, (Integer) box); break;
                case 6: Array.setLong(row, i, (Long) box); break;
                case 7: Array.setFloat(row, i, (Float) box); break;
                default: Array.setDouble(row, i, (Double) box); break;
            }
        }

        static Object thing(int kind, int n) {
            if (kind <= 11) {
                return Array.newInstance(ITEM[kind], n);
            }
            return kind == 12 ? new Peg(n) : new TallPeg(n);
        }

        static int faultOf(RuntimeException e) {
            if (e instanceof NullPointerException) {
                return 1;
            }
            if (e instanceof ArrayIndexOutOfBoundsException) {
                return 3;
            }
            if (e instanceof IllegalArgumentException) {
                return 2;
            }
            throw e;
        }

        boolean isBox() {
            return held != null && kindOf(held) <= 8 && !held.getClass().isArray();
        }

        int make(int slot, int kind, int n) {
            if (!slot(slot)) {
                return -1;
            }
            if (kind < 1 || kind > 13 || n < 0 || n > 12) {
                return -2;
            }
            if (made == 200) {
                return -3;
            }
            made++;
            slots[slot] = thing(kind, n);
            return 1;
        }

        int grip(int kind, long v) {
            if (kind == 0) {
                held = null;
            } else if (number(kind)) {
                held = box(kind, v);
            } else if (kind < 12 || kind > 13 || v < 0 || v > 12) {
                return -2;
            } else if (made == 200) {
                return -3;
            } else {
                made++;
                held = thing(kind, (int) v);
            }
            return 1;
        }

        int swap(int slot, boolean back) {
            if (!slot(slot)) {
                return -1;
            }
            if (back && isBox()) {
                return -2;
            }
            if (back) {
                slots[slot] = held;
            } else {
                held = slots[slot];
            }
            return 1;
        }

        long hand(int what) {
            if (what == 0) {
                return kindOf(held);
            }
            if (what != 1) {
                return Long.MIN_VALUE;
            }
            return isBox() ? tell(held) : held instanceof Peg peg ? peg.height : 0;
        }

        int profile(int slot, int i) {
            if (Array.getLength(slots[slot]) >= 0 && slots[slot] instanceof Object[]) {
                throw new IllegalArgumentException();
            }
            Array.get(slots[slot], i);
            int sum = 0;
            for (int as = 1; as <= 8; as++) {
                try {
                    get(slots[slot], i, as);
                    sum += 1 << (as - 1);
                } catch (IllegalArgumentException e) {
                    continue;
                }
            }
            return sum;
        }

        int height(int slot, int i) {
            Object item = Array.get(slots[slot], i);
            if (item == null) {
                return -1;
            }
            if (item instanceof Peg peg) {
                return peg.height;
            }
            throw new IllegalArgumentException();
        }

        int carry(int from, int i, int to, int k, int n, int as) {
            went = 0;
            for (int j = 0; j < n; j++) {
                put(slots[to], k + j, get(slots[from], i + j, as));
                went++;
            }
            return n;
        }

        int fill(int slot, int as, long v) {
            went = 0;
            for (int i = 0; i < Array.getLength(slots[slot]); i++) {
                put(slots[slot], i, box(as, v));
                went++;
            }
            return Array.getLength(slots[slot]);
        }

        long sum(int slot, boolean exact) {
            long whole = 0;
            double parts = 0.0;
            for (int i = 0; i < Array.getLength(slots[slot]); i++) {
                if (exact) {
                    whole += Array.getLong(slots[slot], i);
                } else {
                    parts += Array.getDouble(slots[slot], i);
                }
            }
            return exact ? whole : Double.doubleToRawLongBits(parts);
        }

        int crest(int slot) {
            int place = -10;
            double greatest = Double.NEGATIVE_INFINITY;
            for (int i = 0; i < Array.getLength(slots[slot]); i++) {
                double item = Array.getDouble(slots[slot], i);
                if (item > greatest) {
                    greatest = item;
                    place = i;
                }
            }
            return place;
        }

        int differ(int a, int b) {
            int first = Array.getLength(slots[a]);
            int shorter = Math.min(first, Array.getLength(slots[b]));
            for (int i = 0; i < shorter; i++) {
                double left = Array.getDouble(slots[a], i);
                if (left != Array.getDouble(slots[b], i)) {
                    return i;
                }
            }
            return shorter;
        }

        /** The calls that can fault; which slots and kinds are let has been looked at. */
        long faultable(Call c) {
            switch (c.name) {
                case LENGTH: return Array.getLength(slots[c.a]);
                case READ: return tell(get(slots[c.a], c.b, c.c));
                case SET: put(slots[c.a], c.b, box(c.c, c.v)); return 1;
                case PROFILE: return profile(c.a, c.b);
                case LIFT: held = Array.get(slots[c.a], c.b); return 1;
                case LAY: Array.set(slots[c.a], c.b, held); return 1;
                case CARRY: return carry(c.a, c.b, c.c, c.d, c.e, c.f);
                case FILL: return fill(c.a, c.b, c.v);
                case SUM: return sum(c.a, c.flag);
                case CREST: return crest(c.a);
                case DIFFER: return differ(c.a, c.b);
                default: return height(c.a, c.b);
            }
        }

        /** -1 or -2, if the call is refused; 0 otherwise. */
        static int refusal(Call c) {
            boolean second = c.name == Name.DIFFER && !slot(c.b) || c.name == Name.CARRY && !slot(c.c);
            if (!slot(c.a) || second) {
                return -1;
            }
            boolean kind = (c.name == Name.READ || c.name == Name.SET) && !number(c.c)
                || c.name == Name.FILL && !number(c.b) || c.name == Name.CARRY && !number(c.f);
            return kind || c.name == Name.CARRY && (c.e < 0 || c.e > 12) ? -2 : 0;
        }

        long answer(Call c) {
            switch (c.name) {
                case MAKE: return make(c.a, c.b, c.c);
                case GRIP: return grip(c.a, c.v);
                case SWAP: return swap(c.a, c.flag);
                case HAND: return hand(c.a);
                case WENT: return went;
                case TOLD: return c.a == 0 ? made : c.a > 0 && c.a < 4 ? faults[c.a] : -2;
                case KIND: return slot(c.a) ? kindOf(slots[c.a]) : -1;
                case SHARE:
                    if (!slot(c.a) || !slot(c.b)) {
                        return -1;
                    }
                    slots[c.a] = slots[c.b];
                    return 1;
                default: return faultableAnswer(c);
            }
        }

        long faultableAnswer(Call c) {
            boolean tellsLong = c.name == Name.READ || c.name == Name.SUM;
            int refusal = refusal(c);
            if (refusal != 0) {
                return tellsLong ? Long.MIN_VALUE : refusal;
            }
            try {
                return faultable(c);
            } catch (RuntimeException e) {
                int fault = faultOf(e);
                faults[fault]++;
                return tellsLong ? Long.MIN_VALUE : -10 - fault;
            }
        }
    }

    private enum Name {
        MAKE, SHARE, KIND, LENGTH, READ, SET, PROFILE, GRIP, LIFT, LAY, SWAP, HAND, CARRY, WENT, FILL, SUM, CREST,
        DIFFER, HEIGHT, TOLD
    }

    private static final class Call {
        Name name;
        int a, b, c, d, e, f;
        long v;
        boolean flag;

        @Override
        public String toString() {
            return name + " a=" + a + " b=" + b + " c=" + c + " d=" + d + " e=" + e + " f=" + f + " v=" + v + " " + flag;
        }
    }

    private static long answer(TideVault x, Call c) {
        switch (c.name) {
            case MAKE: return x.make(c.a, c.b, c.c);
            case SHARE: return x.share(c.a, c.b);
            case KIND: return x.kind(c.a);
            case LENGTH: return x.length(c.a);
            case READ: return x.read(c.a, c.b, c.c);
            case SET: return x.set(c.a, c.b, c.c, c.v);
            case PROFILE: return x.profile(c.a, c.b);
            case GRIP: return x.grip(c.a, c.v);
            case LIFT: return x.lift(c.a, c.b);
            case LAY: return x.lay(c.a, c.b);
            case SWAP: return x.swap(c.a, c.flag);
            case HAND: return x.hand(c.a);
            case CARRY: return x.carry(c.a, c.b, c.c, c.d, c.e, c.f);
            case WENT: return x.went();
            case FILL: return x.fill(c.a, c.b, c.v);
            case SUM: return x.sum(c.a, c.flag);
            case CREST: return x.crest(c.a);
            case DIFFER: return x.differ(c.a, c.b);
            case HEIGHT: return x.height(c.a, c.b);
            default: return x.told(c.a);
        }
    }

    /** A counting mixer, so that each run is the same on every machine. */
    private static long state = 20261116L;

    private static long next() {
        state += 0x9E3779B97F4A7C15L;
        long z = (state ^ (state >>> 30)) * 0xBF58476D1CE4E5B9L;
        z = (z ^ (z >>> 27)) * 0x94D049BB133111EBL;
        return z ^ (z >>> 31);
    }

    private static int from(int low, int high) {
        return low + (int) Long.remainderUnsigned(next(), high - low + 1L);
    }

    /** Mostly inside the range, now and then just outside of it or far away. */
    private static int near(int low, int high) {
        int luck = from(0, 79);
        if (luck == 0) {
            return (int) next();
        }
        return luck <= 2 ? low - 1 : luck <= 4 ? high + 1 : from(low, high);
    }

    private static long value() {
        switch (from(0, 5)) {
            case 0: return from(-5, 13);
            case 1: return next();
            case 2: return next() >> from(0, 63);
            case 3: return (1L << from(0, 63)) + from(-2, 2);
            case 4: return -(1L << from(0, 63)) + from(-2, 2);
            default: return (1L << from(24, 62)) + (1L << from(0, 38)) + from(-1, 1);
        }
    }

    private static void draw(Call c) {
        c.name = Name.values()[from(0, Name.values().length - 1)];
        c.a = near(0, 9);
        c.v = value();
        c.flag = from(0, 1) == 1;
        int farthest = from(0, 4) == 0 ? 12 : 4;
        c.b = near(0, farthest);
        c.c = near(1, 8);
        c.d = near(0, farthest);
        c.e = from(0, 3) == 0 ? near(0, 12) : near(0, 4);
        c.f = from(0, 2) == 0 ? 8 : near(1, 8);
        switch (c.name) {
            case MAKE: c.b = near(1, 13); c.c = near(0, from(0, 3) == 0 ? 12 : 6); break;
            case SHARE: case DIFFER: c.b = near(0, 9); break;
            case GRIP: c.a = near(0, 13); if (c.a >= 12 && from(0, 9) > 0) { c.v = from(0, 12); } break;
            case HAND: c.a = near(0, 1); break;
            case TOLD: c.a = near(0, 3); break;
            case FILL: c.b = near(1, 8); break;
            case CARRY: c.c = near(0, 9); break;
            default: break;
        }
    }

    private static boolean runAgrees(int run) {
        TideVault x = new TideVault();
        Oracle oracle = new Oracle();
        Call c = new Call();
        // Some runs make a row in nearly every slot first; the others stay sparse.
        int rowsFirst = run % 3 == 0 ? 0 : 9;
        for (int n = 0; n < CALLS; n++) {
            draw(c);
            if (n < rowsFirst) {
                c.name = Name.MAKE;
                c.a = n;
                c.b = from(1, 11);
                c.c = from(0, from(0, 3) == 0 ? 12 : 6);
            }
            long want = oracle.answer(c);
            long got = answer(x, c);
            if (got != want) {
                System.out.println("run " + run + ", call " + n + ": " + c + " answered " + got + ", due is " + want);
                return false;
            }
        }
        return true;
    }

    /** What calls answer after the 512th is free, but none may throw, and a throw here ends the test. */
    private static void callOnAndOn() {
        TideVault x = new TideVault();
        Call c = new Call();
        for (int n = 0; n < CALLS * 400; n++) {
            draw(c);
            answer(x, c);
        }
    }

    public static void main(String[] args) {
        callOnAndOn();
        int wrong = 0;
        for (int run = 0; run < RUNS; run++) {
            if (!runAgrees(run)) {
                wrong++;
            }
        }
        System.out.println(RUNS + " runs, " + wrong + " with a wrong answer");
        if (wrong != 0) {
            System.exit(1);
        }
    }
}

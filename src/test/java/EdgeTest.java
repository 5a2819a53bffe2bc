/** Each sentence of promises 1 to 21 that names a boundary case, by itself. */
public final class EdgeTest {
    private static final int MISSING = Run.MISSING, UNFIT = Run.UNFIT, PLACE = Run.PLACE;
    private static final int UNKNOWN = Run.UNKNOWN, OUTSIDE = Run.OUTSIDE, FULL = Run.FULL;
    private static final long LOST = Run.LOST;
    private static final int FIRST_INT = Integer.MIN_VALUE, LAST_INT = Integer.MAX_VALUE;
    private static final long FIRST_LONG = Long.MIN_VALUE, LAST_LONG = Long.MAX_VALUE;

    // ---- promise 1

    private static void newSlots() {
        Run.sentence("1: All SLOTS hold NOTHING");
        Run x = new Run();
        for (int slot = 0; slot <= 9; slot++) {
            x.kind(slot).is(0);
        }
    }

    private static void newHand() {
        Run.sentence("1: THE HAND holds NOTHING");
        Run x = new Run();
        x.holds(0, 0);
    }

    private static void newObjectsAreApart() {
        Run.sentence("1: a new object, whatever was done to another one");
        Run x = Run.withThings();
        x.grip(13, 4).is(1);
        x.fill(5, 5, 1).is(3);
        x.length(8).is(MISSING);
        Run y = new Run();
        for (int slot = 0; slot <= 9; slot++) {
            y.kind(slot).is(0);
        }
        y.holds(0, 0);
        y.went().is(0);
        y.told(0).is(0);
        y.faults(0, 0, 0);
    }

    // ---- promise 2

    private static void makeKinds() {
        Run.sentence("2: a new ROW of a KIND 1 to 11; or a PEG, a TALL one (12, 13)");
        Run x = new Run();
        for (int kind = 1; kind <= 13; kind++) {
            x.make(0, kind, 2).is(1);
            x.kind(0).is(kind);
            x.length(0).is(kind <= 11 ? 2 : UNFIT);
        }
        x.make(0, 0, 2).is(OUTSIDE);
        x.make(0, 14, 2).is(OUTSIDE);
        x.make(0, -1, 2).is(OUTSIDE);
        x.kind(0).is(13);
    }

    private static void makeItems() {
        Run.sentence("2: with n ITEMS (0 to 12)");
        for (int kind = 1; kind <= 11; kind++) {
            Run x = new Run();
            for (int n = 0; n <= 12; n++) {
                x.make(0, kind, n).is(1);
                x.length(0).is(n);
            }
            x.make(0, kind, -1).is(OUTSIDE);
            x.make(0, kind, 13).is(OUTSIDE);
            x.make(0, kind, FIRST_INT).is(OUTSIDE);
            x.make(0, kind, LAST_INT).is(OUTSIDE);
            x.length(0).is(12);
        }
    }

    private static void makeZeros() {
        Run.sentence("2: 0s");
        Run x = Run.withNumberRows(12);
        for (int kind = 1; kind <= 8; kind++) {
            for (int i = 0; i < 12; i++) {
                x.read(kind - 1, i, kind).is(0);
            }
        }
        x.fill(4, 5, 9).is(12);
        x.make(4, 5, 12).is(1);
        x.read(4, 11, 5).is(0);
    }

    private static void makeNothings() {
        Run.sentence("2: NOTHING");
        for (int kind = 9; kind <= 11; kind++) {
            Run x = new Run();
            x.make(0, kind, 12).is(1);
            for (int i = 0; i < 12; i++) {
                x.grip(5, 1).is(1);
                x.lift(0, i).is(1);
                x.holds(0, 0);
                x.height(0, i).is(-1);
            }
        }
    }

    private static void makeHeights() {
        Run.sentence("2: a PEG, a TALL one (12, 13) of HEIGHT n (0 to 12)");
        for (int kind = 12; kind <= 13; kind++) {
            Run x = new Run();
            for (int n = 0; n <= 12; n++) {
                x.make(0, kind, n).is(1);
                x.swap(0, false).is(1);
                x.holds(kind, n);
            }
            x.make(0, kind, -1).is(OUTSIDE);
            x.make(0, kind, 13).is(OUTSIDE);
            x.swap(0, false).is(1);
            x.holds(kind, 12);
        }
    }

    private static void makeFull() {
        Run.sentence("2: FULL");
        Run x = new Run();
        for (int made = 1; made <= 199; made++) {
            x.make(1, 5, 2).is(1);
        }
        x.make(2, 13, 7).is(1);
        x.make(1, 6, 2).is(FULL);
        x.make(3, 12, 2).is(FULL);
        x.kind(1).is(5);
        x.kind(3).is(0);
        x.told(0).is(200);
        x.make(10, 6, 2).is(UNKNOWN);
        x.make(1, 14, 2).is(OUTSIDE);
        x.make(1, 6, 13).is(OUTSIDE);
        x.make(10, 14, 13).is(UNKNOWN);
    }

    private static void makeReplaces() {
        Run.sentence("2: A SLOT gets a new ROW: what others hold stays");
        Run x = new Run();
        x.make(0, 5, 2).is(1);
        x.set(0, 1, 5, 8).is(1);
        x.share(1, 0).is(1);
        x.swap(0, false).is(1);
        x.make(0, 5, 2).is(1);
        x.read(0, 1, 5).is(0);
        x.read(1, 1, 5).is(8);
        x.swap(2, true).is(1);
        x.read(2, 1, 5).is(8);
    }

    // ---- promises 3, 4 and 5

    private static void shareNothing() {
        Run.sentence("3: A SLOT gets what another one holds: NOTHING, too");
        Run x = Run.withThings();
        x.share(5, 8).is(1);
        x.kind(5).is(0);
        x.kind(8).is(0);
    }

    private static void shareItself() {
        Run.sentence("3: A SLOT gets what it holds");
        Run x = Run.withThings();
        x.set(5, 0, 5, 3).is(1);
        x.share(5, 5).is(1);
        x.read(5, 0, 5).is(3);
        x.share(8, 8).is(1);
        x.kind(8).is(0);
    }

    private static void shareEveryKind() {
        Run.sentence("3: what another one holds, of every KIND; it stays there");
        Run x = new Run();
        for (int kind = 1; kind <= 13; kind++) {
            x.make(0, kind, 4).is(1);
            x.share(9, 0).is(1);
            x.kind(9).is(kind);
            x.kind(0).is(kind);
        }
        x.told(0).is(13);
    }

    private static void kindOfNothing() {
        Run.sentence("4: 0: NOTHING");
        Run x = new Run();
        x.kind(0).is(0);
        x.make(0, 1, 0).is(1);
        x.kind(0).is(1);
        x.share(0, 9).is(1);
        x.kind(0).is(0);
        x.faults(0, 0, 0);
    }

    private static void kindOfWhatIsEmpty() {
        Run.sentence("4: The KIND of what a SLOT holds: of a ROW without ITEMS, a PEG of HEIGHT 0, too");
        Run x = new Run();
        for (int kind = 1; kind <= 13; kind++) {
            x.make(9, kind, 0).is(1);
            x.kind(9).is(kind);
        }
    }

    private static void lengths() {
        Run.sentence("5: How many ITEMS");
        Run x = new Run();
        for (int kind = 1; kind <= 11; kind++) {
            x.make(0, kind, 0).is(1);
            x.length(0).is(0);
            x.make(0, kind, 12).is(1);
            x.length(0).is(12);
        }
        x.faults(0, 0, 0);
    }

    private static void lengthFaults() {
        Run.sentence("5: FAULTS 1, 2");
        Run x = Run.withThings();
        x.length(8).is(MISSING);
        x.faults(1, 0, 0);
        x.length(3).is(UNFIT);
        x.length(4).is(UNFIT);
        x.faults(1, 2, 0);
    }

    // ---- promises 6, 7 and 8

    private static void readKinds() {
        Run.sentence("6: read as a KIND 1 to 8");
        Run x = Run.withNumberRows(1);
        for (int kind = 1; kind <= 8; kind++) {
            x.read(kind - 1, 0, kind).is(0);
            x.read(kind - 1, 0, 0).is(LOST);
            x.read(kind - 1, 0, 9).is(LOST);
            x.read(kind - 1, 0, -1).is(LOST);
        }
        x.faults(0, 0, 0);
    }

    private static void readFaults() {
        Run.sentence("6: FAULTS 1, 2, 3, 2");
        Run x = Run.withThings();
        x.read(8, 3, 4).is(LOST);
        x.faults(1, 0, 0);
        x.read(4, 3, 4).is(LOST);
        x.read(2, 3, 4).is(LOST);
        x.faults(1, 2, 0);
        x.read(5, 3, 4).is(LOST);
        x.read(5, -1, 4).is(LOST);
        x.faults(1, 2, 2);
        x.read(5, 2, 4).is(LOST);
        x.faults(1, 3, 2);
        x.read(5, 2, 5).is(0);
        x.faults(1, 3, 2);
    }

    private static void readOfLost() {
        Run.sentence("6: ITEM i: the smallest LONG is told like LOST, and is no FAULT");
        Run x = Run.withThings();
        x.set(9, 0, 6, FIRST_LONG).is(1);
        x.read(9, 0, 6).is(FIRST_LONG);
        x.faults(0, 0, 0);
    }

    private static void setKinds() {
        Run.sentence("7: ITEM i is set by v as a number of a KIND 1 to 8");
        Run x = Run.withNumberRows(3);
        for (int kind = 1; kind <= 8; kind++) {
            x.set(kind - 1, 1, kind, 8).is(1);
            x.read(kind - 1, 0, kind).is(0);
            x.read(kind - 1, 2, kind).is(0);
            x.set(kind - 1, 1, 0, 9).is(OUTSIDE);
            x.set(kind - 1, 1, 9, 9).is(OUTSIDE);
        }
        x.read(4, 1, 5).is(8);
        x.read(7, 1, 8).is(Run.bits(1.0));
        x.faults(0, 0, 0);
    }

    private static void setGivenThenWidened() {
        Run.sentence("7: set by v as a number of a KIND: cut to it first, then WIDENED");
        Run x = Run.withNumberRows(1);
        x.set(5, 0, 2, 255).is(1);
        x.read(5, 0, 6).is(-1);
        x.set(5, 0, 3, -1).is(1);
        x.read(5, 0, 6).is(65535);
        x.set(5, 0, 4, 32768).is(1);
        x.read(5, 0, 6).is(-32768);
        x.set(5, 0, 5, 1L << 31).is(1);
        x.read(5, 0, 6).is(FIRST_INT);
        x.set(7, 0, 2, 128).is(1);
        x.read(7, 0, 8).is(Run.bits(-128.0));
        x.set(7, 0, 7, (1L << 24) + 1).is(1);
        x.read(7, 0, 8).is(Run.bits(2097152.0));
        x.set(6, 0, 6, 8).is(1);
        x.read(6, 0, 7).is(Run.bits(8.0f));
        x.set(6, 0, 7, 8).is(1);
        x.read(6, 0, 7).is(Run.bits(1.0f));
    }

    private static void setFaults() {
        Run.sentence("7: FAULTS 1, 2, 3, 2");
        Run x = Run.withThings();
        x.fill(5, 5, 4).is(3);
        x.set(8, 3, 6, 1).is(MISSING);
        x.faults(1, 0, 0);
        x.set(3, 3, 6, 1).is(UNFIT);
        x.set(1, 3, 6, 1).is(UNFIT);
        x.faults(1, 2, 0);
        x.set(5, 3, 6, 1).is(PLACE);
        x.set(5, -1, 6, 1).is(PLACE);
        x.faults(1, 2, 2);
        x.set(5, 2, 6, 1).is(UNFIT);
        x.faults(1, 3, 2);
        x.sum(5, true).is(12);
    }

    private static void profiles() {
        Run.sentence("8: As which KINDS ITEM i can be read: the sum of 2 to the KIND less 1");
        Run x = Run.withNumberRows(12);
        int[] due = {1, 250, 244, 248, 240, 224, 192, 128};
        for (int kind = 1; kind <= 8; kind++) {
            x.profile(kind - 1, 0).is(due[kind - 1]);
            x.profile(kind - 1, 11).is(due[kind - 1]);
            for (int as = 1; as <= 8; as++) {
                x.read(kind - 1, 0, as).is((due[kind - 1] >> (as - 1) & 1) == 1 ? 0 : LOST);
            }
        }
    }

    private static void profileFaults() {
        Run.sentence("8: FAULTS 1, 2 (also a ROW of THINGS), 3");
        Run x = Run.withThings();
        x.profile(8, 3).is(MISSING);
        x.faults(1, 0, 0);
        for (int slot = 0; slot <= 4; slot++) {
            x.profile(slot, 0).is(UNFIT);
            x.profile(slot, 3).is(UNFIT);
            x.profile(slot, -1).is(UNFIT);
        }
        x.faults(1, 15, 0);
        x.profile(5, 3).is(PLACE);
        x.profile(5, -1).is(PLACE);
        x.profile(7, 3).is(PLACE);
        x.faults(1, 15, 3);
    }

    // ---- promise 9

    private static void gripNumbers() {
        Run.sentence("9: THE HAND gets a number of a KIND 1 to 8 by v");
        long[] due = {1, -1, 65535, -1, -1, LAST_LONG, Run.bits(0x1p60f), Run.bits(0x1p60)};
        Run x = new Run();
        for (int kind = 1; kind <= 8; kind++) {
            x.grip(kind, LAST_LONG).is(1);
            x.holds(kind, due[kind - 1]);
        }
        x.told(0).is(0);
    }

    private static void gripOtherKinds() {
        Run.sentence("9: no other KIND: 9 to 11, 14 and less than 0");
        Run x = new Run();
        x.grip(6, 77).is(1);
        for (int kind : new int[] {-1, 9, 10, 11, 14, 15, FIRST_INT, LAST_INT}) {
            x.grip(kind, 1).is(OUTSIDE);
        }
        x.holds(6, 77);
        x.told(0).is(0);
    }

    private static void gripHeights() {
        Run.sentence("9: a new PEG, a TALL one (12, 13) of HEIGHT v (0 to 12)");
        for (int kind = 12; kind <= 13; kind++) {
            Run x = new Run();
            for (int v = 0; v <= 12; v++) {
                x.grip(kind, v).is(1);
                x.holds(kind, v);
            }
            x.told(0).is(13);
            long[] wrong = {-1, 13, FIRST_INT, LAST_INT, FIRST_LONG, LAST_LONG, 1L << 32, (1L << 32) + 12, -(1L << 32)};
            for (long v : wrong) {
                x.grip(kind, v).is(OUTSIDE);
            }
            x.holds(kind, 12);
            x.told(0).is(13);
        }
    }

    private static void gripNew() {
        Run.sentence("9: a new PEG: one of its own each time");
        Run x = Run.withThings();
        x.grip(12, 1).is(1);
        x.lay(0, 0).is(1);
        x.grip(12, 2).is(1);
        x.lay(0, 1).is(1);
        x.height(0, 0).is(1);
        x.height(0, 1).is(2);
    }

    private static void gripNothing() {
        Run.sentence("9: or NOTHING (0)");
        for (long v : new long[] {0, 13, -1, FIRST_LONG, LAST_LONG}) {
            Run x = new Run();
            x.grip(6, 5).is(1);
            x.grip(0, v).is(1);
            x.holds(0, 0);
            x.grip(12, 5).is(1);
            x.grip(0, v).is(1);
            x.holds(0, 0);
            x.told(0).is(1);
        }
    }

    private static void gripFull() {
        Run.sentence("9: FULL");
        Run x = new Run();
        for (int made = 1; made <= 199; made++) {
            x.make(0, 12, 1).is(1);
        }
        x.grip(13, 9).is(1);
        x.grip(12, 1).is(FULL);
        x.grip(13, 1).is(FULL);
        x.holds(13, 9);
        x.grip(12, 13).is(OUTSIDE);
        x.grip(13, -1).is(OUTSIDE);
        x.grip(14, 1).is(OUTSIDE);
        x.told(0).is(200);
    }

    private static void gripNumbersWhenFull() {
        Run.sentence("9: FULL: numbers and NOTHING are not MADE");
        Run x = new Run();
        for (int made = 1; made <= 200; made++) {
            x.make(0, 12, 1).is(1);
        }
        for (int kind = 1; kind <= 8; kind++) {
            x.grip(kind, 8).is(1);
            x.hand(0).is(kind);
        }
        x.grip(0, 0).is(1);
        x.holds(0, 0);
        x.told(0).is(200);
    }

    // ---- promises 10 and 11

    private static void liftNumbers() {
        Run.sentence("10: THE HAND gets ITEM i: a number of the ROW's KIND");
        Run x = Run.withNumberRows(12);
        for (int kind = 1; kind <= 8; kind++) {
            x.set(kind - 1, 11, kind, 1).is(1);
            x.lift(kind - 1, 11).is(1);
            x.holds(kind, kind == 7 ? Run.bits(0.125f) : kind == 8 ? Run.bits(0.125) : 1);
            x.lift(kind - 1, 0).is(1);
            x.holds(kind, 0);
        }
    }

    private static void liftedNumberStays() {
        Run.sentence("10: a number alone: the ITEM may change afterwards");
        Run x = Run.withThings();
        x.set(5, 0, 5, 8).is(1);
        x.lift(5, 0).is(1);
        x.set(5, 0, 5, 9).is(1);
        x.holds(5, 8);
        x.lay(5, 1).is(1);
        x.read(5, 0, 5).is(9);
        x.read(5, 1, 5).is(8);
    }

    private static void liftThings() {
        Run.sentence("10: or the very THING");
        Run x = Run.withThings();
        x.swap(5, false).is(1);
        x.lay(2, 1).is(1);
        x.grip(0, 0).is(1);
        x.lift(2, 1).is(1);
        x.holds(5, 0);
        x.swap(8, true).is(1);
        x.set(8, 2, 5, 77).is(1);
        x.read(5, 2, 5).is(77);
        x.told(0).is(9);
    }

    private static void liftLeavesTheItem() {
        Run.sentence("10: THE HAND gets ITEM i: the ROW holds it afterwards, too");
        Run x = Run.withThings();
        x.set(5, 0, 5, 8).is(1);
        x.lift(5, 0).is(1);
        x.read(5, 0, 5).is(8);
        x.grip(13, 3).is(1);
        x.lay(0, 0).is(1);
        x.lift(0, 0).is(1);
        x.height(0, 0).is(3);
        x.lift(0, 0).is(1);
        x.holds(13, 3);
    }

    private static void liftNothing() {
        Run.sentence("10: THE HAND gets ITEM i: NOTHING, too");
        Run x = Run.withThings();
        for (int slot = 0; slot <= 2; slot++) {
            x.grip(6, 5).is(1);
            x.lift(slot, 0).is(1);
            x.holds(0, 0);
        }
        x.faults(0, 0, 0);
    }

    private static void liftFaults() {
        Run.sentence("10: FAULTS 1, 2 (no ROW at all), 3");
        Run x = Run.withThings();
        x.grip(6, 5).is(1);
        x.lift(8, 3).is(MISSING);
        x.faults(1, 0, 0);
        x.lift(3, 0).is(UNFIT);
        x.lift(4, 3).is(UNFIT);
        x.faults(1, 2, 0);
        x.lift(5, 3).is(PLACE);
        x.lift(5, -1).is(PLACE);
        x.lift(0, 2).is(PLACE);
        x.lift(2, -1).is(PLACE);
        x.faults(1, 2, 4);
        x.holds(6, 5);
    }

    private static void layNumbers() {
        Run.sentence("11: ITEM i of a ROW becomes what THE HAND holds (its number, WIDENED)");
        Run x = Run.withNumberRows(2);
        x.grip(2, 200).is(1);
        long[] due = {UNFIT, 1, UNFIT, 1, 1, 1, 1, 1};
        for (int kind = 1; kind <= 8; kind++) {
            x.lay(kind - 1, 1).is(due[kind - 1]);
            x.read(kind - 1, 0, kind).is(0);
        }
        x.read(1, 1, 2).is(-56);
        x.read(5, 1, 6).is(-56);
        x.read(6, 1, 7).is(Run.bits(-56.0f));
        x.read(7, 1, 8).is(Run.bits(-56.0));
        x.grip(6, (1L << 24) + 1).is(1);
        x.lay(6, 1).is(1);
        x.read(6, 1, 7).is(Run.bits(16777216.0f));
        x.grip(7, 9).is(1);
        x.lay(7, 1).is(1);
        x.read(7, 1, 8).is(Run.bits(1.125));
    }

    private static void layKeepsTheHand() {
        Run.sentence("11: THE HAND holds it afterwards, too");
        Run x = Run.withThings();
        x.grip(2, 7).is(1);
        x.lay(5, 0).is(1);
        x.lay(6, 0).is(1);
        x.holds(2, 7);
        x.grip(13, 3).is(1);
        x.lay(0, 0).is(1);
        x.lay(0, 1).is(1);
        x.lay(1, 0).is(1);
        x.holds(13, 3);
        x.height(0, 1).is(3);
        x.height(1, 0).is(3);
    }

    private static void layThings() {
        Run.sentence("11: or the very THING");
        Run x = Run.withThings();
        x.swap(5, false).is(1);
        x.lay(2, 0).is(1);
        x.lay(2, 1).is(1);
        x.set(5, 1, 5, 6).is(1);
        for (int i = 0; i <= 1; i++) {
            x.lift(2, i).is(1);
            x.swap(8, true).is(1);
            x.read(8, 1, 5).is(6);
        }
        x.told(0).is(9);
    }

    private static void layNothing() {
        Run.sentence("11: becomes what THE HAND holds: NOTHING in a ROW of THINGS");
        Run x = Run.withThings();
        x.grip(13, 3).is(1);
        x.lay(0, 0).is(1);
        x.lay(1, 0).is(1);
        x.grip(0, 0).is(1);
        x.lay(0, 0).is(1);
        x.lay(1, 0).is(1);
        x.lay(2, 0).is(1);
        x.height(0, 0).is(-1);
        x.height(1, 0).is(-1);
        x.faults(0, 0, 0);
    }

    private static void layFaults() {
        Run.sentence("11: FAULTS 1, 2, 3, 2");
        Run x = Run.withThings();
        x.lay(8, 3).is(MISSING);
        x.faults(1, 0, 0);
        x.lay(3, 3).is(UNFIT);
        x.lay(5, 3).is(UNFIT);
        x.lay(5, 0).is(UNFIT);
        x.faults(1, 3, 0);
        x.lay(0, 2).is(PLACE);
        x.grip(6, 1).is(1);
        x.lay(5, 3).is(PLACE);
        x.lay(0, -1).is(PLACE);
        x.swap(3, false).is(1);
        x.lay(5, 3).is(PLACE);
        x.lay(1, 2).is(PLACE);
        x.faults(1, 3, 5);
        x.lay(5, 2).is(UNFIT);
        x.lay(1, 1).is(UNFIT);
        x.lay(2, 1).is(UNFIT);
        x.grip(6, 1).is(1);
        x.lay(5, 2).is(UNFIT);
        x.lay(0, 1).is(UNFIT);
        x.faults(1, 8, 5);
        x.read(5, 2, 5).is(0);
        x.height(1, 1).is(-1);
    }

    // ---- promises 12 and 13

    private static void swapOut() {
        Run.sentence("12: THE HAND gets what a SLOT holds (back = false)");
        Run x = Run.withThings();
        int[] kinds = {9, 10, 11, 12, 13, 5, 8, 1, 0, 6};
        for (int slot = 0; slot <= 9; slot++) {
            x.swap(slot, false).is(1);
            x.hand(0).is(kinds[slot]);
            x.kind(slot).is(kinds[slot]);
        }
        x.faults(0, 0, 0);
    }

    private static void swapOverANumber() {
        Run.sentence("12: OUTSIDE: a number alone: only back = true is refused");
        Run x = Run.withThings();
        for (int kind = 1; kind <= 8; kind++) {
            x.grip(kind, 8).is(1);
            x.swap(8, true).is(OUTSIDE);
            x.swap(5, true).is(OUTSIDE);
            x.hand(0).is(kind);
            x.swap(8, false).is(1);
            x.holds(0, 0);
        }
        x.kind(8).is(0);
        x.kind(5).is(5);
        x.lift(5, 0).is(1);
        x.swap(8, true).is(OUTSIDE);
        x.swap(10, true).is(UNKNOWN);
        x.faults(0, 0, 0);
    }

    private static void swapBack() {
        Run.sentence("12: or the SLOT what THE HAND holds (true)");
        Run x = Run.withThings();
        int[] kinds = {9, 10, 11, 12, 13, 5, 8, 1};
        for (int slot = 0; slot <= 7; slot++) {
            x.swap(slot, false).is(1);
            x.swap(8, true).is(1);
            x.kind(8).is(kinds[slot]);
            x.kind(slot).is(kinds[slot]);
        }
        x.grip(0, 0).is(1);
        x.swap(8, true).is(1);
        x.kind(8).is(0);
        x.holds(0, 0);
        x.told(0).is(9);
    }

    private static void swapTheVery() {
        Run.sentence("12: what THE HAND holds: the very one, which stays there");
        Run x = Run.withThings();
        x.swap(5, false).is(1);
        x.swap(8, true).is(1);
        x.swap(0, true).is(1);
        x.holds(5, 0);
        x.set(0, 2, 5, 31).is(1);
        x.read(8, 2, 5).is(31);
        x.read(5, 2, 5).is(31);
    }

    private static void handKinds() {
        Run.sentence("13: 0 its KIND (0: NOTHING)");
        Run x = new Run();
        x.hand(0).is(0);
        for (int kind = 1; kind <= 13; kind++) {
            x.make(0, kind, 0).is(1);
            x.swap(0, false).is(1);
            x.hand(0).is(kind);
        }
        for (int kind = 1; kind <= 8; kind++) {
            x.grip(kind, 0).is(1);
            x.hand(0).is(kind);
        }
        x.grip(0, 0).is(1);
        x.hand(0).is(0);
    }

    private static void handNumbers() {
        Run.sentence("13: 1 its number, HEIGHT (of ROWS, NOTHING: 0)");
        Run x = new Run();
        x.hand(1).is(0);
        x.grip(6, FIRST_LONG).is(1);
        x.hand(1).is(FIRST_LONG);
        x.grip(6, LAST_LONG).is(1);
        x.hand(1).is(LAST_LONG);
        for (int kind = 1; kind <= 13; kind++) {
            x.grip(6, 99).is(1);
            x.make(0, kind, 12).is(1);
            x.swap(0, false).is(1);
            x.hand(1).is(kind >= 12 ? 12 : 0);
        }
        x.grip(12, 0).is(1);
        x.hand(1).is(0);
        x.grip(6, 99).is(1);
        x.swap(9, false).is(1);
        x.hand(1).is(0);
    }

    private static void handOutside() {
        Run.sentence("13: OUTSIDE (LOST)");
        Run x = new Run();
        for (int held : new int[] {0, 5, 12}) {
            x.grip(held, 3).is(1);
            for (int what : new int[] {-1, 2, 3, FIRST_INT, LAST_INT}) {
                x.hand(what).is(LOST);
            }
            x.hand(0).is(held);
        }
        x.faults(0, 0, 0);
    }

    // ---- promises 14 and 15

    private static void carryCounts() {
        Run.sentence("14: n ITEMS from i on .. set .. from k on: n (0 to 12)");
        Run x = new Run();
        x.make(0, 5, 12).is(1);
        x.make(1, 6, 12).is(1);
        for (int i = 0; i < 12; i++) {
            x.set(0, i, 5, i + 1).is(1);
        }
        for (int n = 0; n <= 12; n++) {
            x.fill(1, 6, 0).is(12);
            x.carry(0, 0, 1, 12 - n, n, 6).is(n);
            x.went().is(n);
            x.sum(1, true).is(n * (n + 1) / 2);
        }
        x.fill(1, 6, 0).is(12);
        x.carry(0, 11, 1, 0, 1, 6).is(1);
        x.read(1, 0, 6).is(12);
        x.sum(1, true).is(12);
        x.faults(0, 0, 0);
    }

    private static void carryOutside() {
        Run.sentence("14: OUTSIDE: n is not 0 to 12");
        Run x = Run.withThings();
        for (int n : new int[] {-1, 13, FIRST_INT, LAST_INT}) {
            x.carry(5, 0, 9, 0, n, 5).is(OUTSIDE);
            x.carry(8, 0, 3, 0, n, 5).is(OUTSIDE);
            x.carry(5, 0, 10, 0, n, 5).is(UNKNOWN);
        }
        x.carry(5, 0, 9, 0, 1, 0).is(OUTSIDE);
        x.carry(5, 0, 9, 0, 1, 9).is(OUTSIDE);
        x.faults(0, 0, 0);
    }

    private static void carryNone() {
        Run.sentence("14: n ITEMS: none of 0 can fail");
        Run x = Run.withThings();
        for (int from : new int[] {8, 3, 0, 5}) {
            x.carry(from, 99, 8, -1, 0, 1).is(0);
            x.carry(5, -1, from, 99, 0, 1).is(0);
        }
        x.faults(0, 0, 0);
    }

    private static void carryAs() {
        Run.sentence("14: are read as a KIND 1 to 8 and set as that");
        Run x = Run.withNumberRows(1);
        x.set(5, 0, 6, (1L << 24) + 1).is(1);
        x.carry(5, 0, 7, 0, 1, 7).is(1);
        x.read(7, 0, 8).is(Run.bits(16777216.0));
        x.carry(5, 0, 7, 0, 1, 8).is(1);
        x.read(7, 0, 8).is(Run.bits(16777217.0));
        x.carry(5, 0, 7, 0, 1, 6).is(1);
        x.read(7, 0, 8).is(Run.bits(16777217.0));
        x.set(1, 0, 2, -1).is(1);
        x.carry(1, 0, 5, 0, 1, 4).is(1);
        x.read(5, 0, 6).is(-1);
        x.carry(1, 0, 3, 0, 1, 5).is(UNFIT);
        x.carry(1, 0, 3, 0, 1, 2).is(1);
        x.read(3, 0, 4).is(-1);
    }

    private static void carryInOrder() {
        Run.sentence("14: one by one, in order");
        Run x = new Run();
        x.make(0, 5, 4).is(1);
        x.share(1, 0).is(1);
        for (int i = 0; i < 4; i++) {
            x.set(0, i, 5, i + 1).is(1);
        }
        x.carry(0, 0, 1, 1, 3, 5).is(3);
        for (int i = 0; i < 4; i++) {
            x.read(0, i, 5).is(1);
        }
        for (int i = 0; i < 4; i++) {
            x.set(0, i, 5, i + 1).is(1);
        }
        x.carry(0, 1, 1, 0, 3, 5).is(3);
        int[] due = {2, 3, 4, 4};
        for (int i = 0; i < 4; i++) {
            x.read(0, i, 5).is(due[i]);
        }
    }

    private static void carryReadingFirst() {
        Run.sentence("14: its FAULT (that of reading ahead of that of setting)");
        Run x = Run.withThings();
        x.carry(8, 0, 3, 0, 1, 5).is(MISSING);
        x.carry(3, 0, 8, 0, 1, 5).is(UNFIT);
        x.carry(0, 0, 8, 0, 1, 5).is(UNFIT);
        x.carry(5, 3, 8, 0, 1, 5).is(PLACE);
        x.carry(5, 0, 8, 0, 1, 4).is(UNFIT);
        x.carry(5, 3, 0, 0, 1, 5).is(PLACE);
        x.carry(5, 0, 9, 3, 1, 4).is(UNFIT);
        x.faults(1, 4, 2);
    }

    private static void carryItemByItem() {
        Run.sentence("14: At the first that cannot be: an ITEM is set ahead of reading the next one");
        Run x = Run.withThings();
        x.carry(5, 2, 8, 0, 2, 5).is(MISSING);
        x.carry(5, 2, 3, 0, 2, 5).is(UNFIT);
        x.carry(5, 2, 7, 0, 2, 5).is(UNFIT);
        x.carry(5, 2, 9, 3, 2, 5).is(PLACE);
        x.went().is(0);
        x.faults(1, 2, 1);
    }

    private static void carryPastTheEnds() {
        Run.sentence("14: At the first that cannot be: past the end of either ROW");
        Run x = Run.withThings();
        x.fill(5, 5, 4).is(3);
        x.carry(5, 1, 9, 0, 3, 5).is(PLACE);
        x.went().is(2);
        x.carry(5, 0, 9, 1, 3, 5).is(PLACE);
        x.went().is(2);
        x.carry(5, -1, 9, 0, 3, 5).is(PLACE);
        x.went().is(0);
        x.carry(5, 0, 9, -1, 3, 5).is(PLACE);
        x.went().is(0);
        for (int far : new int[] {FIRST_INT, LAST_INT, LAST_INT - 11, -12}) {
            x.carry(5, far, 9, 0, 12, 5).is(PLACE);
            x.carry(5, 0, 9, far, 12, 5).is(PLACE);
            x.went().is(0);
        }
        x.faults(0, 0, 12);
    }

    private static void carryAhead() {
        Run.sentence("14: Those ahead are set");
        Run x = Run.withThings();
        x.fill(5, 5, 4).is(3);
        x.carry(5, 1, 9, 0, 12, 5).is(PLACE);
        int[] due = {4, 4, 0};
        for (int i = 0; i < 3; i++) {
            x.read(9, i, 6).is(due[i]);
        }
        x.fill(9, 6, 0).is(3);
        x.carry(5, 0, 9, 2, 2, 5).is(PLACE);
        int[] dueAtTheEnd = {0, 0, 4};
        for (int i = 0; i < 3; i++) {
            x.read(9, i, 6).is(dueAtTheEnd[i]);
        }
    }

    private static void wentAtFirst() {
        Run.sentence("15: (0)");
        Run x = new Run();
        x.went().is(0);
        x.carry(0, 0, 10, 0, 1, 5).is(UNKNOWN);
        x.fill(0, 9, 1).is(OUTSIDE);
        x.went().is(0);
    }

    private static void wentAfterRefusals() {
        Run.sentence("15: the latest carry(), fill() that was not refused");
        Run x = Run.withThings();
        x.carry(5, 0, 9, 0, 2, 5).is(2);
        x.carry(10, 0, 9, 0, 1, 5).is(UNKNOWN);
        x.carry(5, 0, -1, 0, 1, 5).is(UNKNOWN);
        x.carry(5, 0, 9, 0, 13, 5).is(OUTSIDE);
        x.carry(5, 0, 9, 0, -1, 5).is(OUTSIDE);
        x.carry(5, 0, 9, 0, 1, 9).is(OUTSIDE);
        x.fill(10, 5, 1).is(UNKNOWN);
        x.fill(5, 0, 1).is(OUTSIDE);
        x.went().is(2);
        x.went().is(2);
    }

    private static void wentAfterFaults() {
        Run.sentence("15: How many ITEMS went: up to the FAULT");
        Run x = Run.withThings();
        x.fill(5, 5, 1).is(3);
        x.carry(5, 2, 9, 0, 2, 5).is(PLACE);
        x.went().is(1);
        x.fill(5, 5, 1).is(3);
        x.carry(8, 0, 9, 0, 2, 5).is(MISSING);
        x.went().is(0);
        x.fill(5, 5, 1).is(3);
        x.fill(5, 6, 1).is(UNFIT);
        x.went().is(0);
        x.fill(5, 5, 1).is(3);
        x.fill(8, 5, 1).is(MISSING);
        x.went().is(0);
        x.fill(5, 5, 1).is(3);
        x.fill(3, 5, 1).is(UNFIT);
        x.went().is(0);
    }

    private static void wentAfterNone() {
        Run.sentence("15: How many ITEMS went: none of none");
        Run x = Run.withThings();
        x.make(8, 5, 0).is(1);
        x.fill(5, 5, 1).is(3);
        x.carry(5, 0, 9, 0, 0, 5).is(0);
        x.went().is(0);
        x.fill(5, 5, 1).is(3);
        x.fill(8, 5, 1).is(0);
        x.went().is(0);
    }

    private static void wentAfterOthers() {
        Run.sentence("15: in the latest carry(), fill(): no other call");
        Run x = Run.withThings();
        x.fill(5, 5, 1).is(3);
        x.set(5, 0, 5, 2).is(1);
        x.set(5, 0, 6, 2).is(UNFIT);
        x.lift(5, 0).is(1);
        x.lay(5, 1).is(1);
        x.lay(5, 3).is(PLACE);
        x.make(0, 5, 2).is(1);
        x.sum(5, true).is(5);
        x.sum(8, true).is(LOST);
        x.differ(5, 9).is(0);
        x.went().is(3);
    }

    // ---- promise 16

    private static void fillAll() {
        Run.sentence("16: All ITEMS of a ROW are set by v as a KIND 1 to 8: how many");
        for (int n = 0; n <= 12; n++) {
            Run x = new Run();
            x.make(0, 5, n).is(1);
            x.fill(0, 4, 65535).is(n);
            x.went().is(n);
            for (int i = 0; i < n; i++) {
                x.read(0, i, 5).is(-1);
            }
        }
    }

    private static void fillKinds() {
        Run.sentence("16: as a KIND 1 to 8: no other one");
        Run x = Run.withThings();
        x.fill(5, 5, 3).is(3);
        for (int as : new int[] {0, 9, -1, FIRST_INT, LAST_INT}) {
            x.fill(5, as, 1).is(OUTSIDE);
            x.fill(8, as, 1).is(OUTSIDE);
            x.fill(10, as, 1).is(UNKNOWN);
        }
        x.sum(5, true).is(9);
        x.faults(0, 0, 0);
    }

    private static void fillFaults() {
        Run.sentence("16: at the first that cannot be: its FAULT");
        Run x = Run.withThings();
        x.fill(5, 5, 3).is(3);
        x.fill(5, 6, 1).is(UNFIT);
        x.sum(5, true).is(9);
        for (int slot = 0; slot <= 2; slot++) {
            x.fill(slot, 5, 1).is(UNFIT);
        }
        x.fill(7, 5, 1).is(UNFIT);
        x.faults(0, 5, 0);
    }

    private static void fillNoItems() {
        Run.sentence("16: at the first that cannot be: there is none in a ROW without ITEMS");
        Run x = new Run();
        for (int kind = 1; kind <= 11; kind++) {
            x.make(0, kind, 0).is(1);
            x.fill(0, 1, 1).is(0);
            x.fill(0, 8, 1).is(0);
        }
        x.faults(0, 0, 0);
    }

    private static void fillLength() {
        Run.sentence("16: FAULTS 1, 2 of the length first");
        Run x = Run.withThings();
        x.fill(8, 5, 1).is(MISSING);
        x.faults(1, 0, 0);
        x.fill(3, 5, 1).is(UNFIT);
        x.fill(4, 5, 1).is(UNFIT);
        x.faults(1, 2, 0);
    }

    // ---- promise 17

    private static void sumExact() {
        Run.sentence("17: The sum of all ITEMS read as LONGS");
        Run x = Run.withNumberRows(12);
        long[] due = {0, -12, 12 * 65535L, -12, -12, -12};
        for (int kind = 2; kind <= 6; kind++) {
            x.sum(kind - 1, true).is(0);
            x.fill(kind - 1, kind, -1).is(12);
            x.sum(kind - 1, true).is(due[kind - 1]);
        }
        x.fill(4, 5, LAST_INT).is(12);
        x.sum(4, true).is(12L * LAST_INT);
        x.faults(0, 0, 0);
    }

    private static void sumWraps() {
        Run.sentence("17: it wraps");
        Run x = Run.withThings();
        x.set(9, 0, 6, LAST_LONG).is(1);
        x.set(9, 2, 6, 2).is(1);
        x.sum(9, true).is(FIRST_LONG + 1);
        x.set(9, 0, 6, FIRST_LONG).is(1);
        x.set(9, 2, 6, -1).is(1);
        x.sum(9, true).is(LAST_LONG);
        x.fill(9, 6, FIRST_LONG).is(3);
        x.sum(9, true).is(FIRST_LONG);
        x.set(9, 2, 6, 0).is(1);
        x.sum(9, true).is(0);
        x.faults(0, 0, 0);
    }

    private static void sumDoubles() {
        Run.sentence("17: or as DOUBLES, told by BITS");
        Run x = Run.withNumberRows(12);
        double[] due = {0, -12, 12 * 65535.0, -12, -12, -12, -1.5, -1.5};
        for (int kind = 2; kind <= 8; kind++) {
            x.sum(kind - 1, false).is(0);
            x.fill(kind - 1, kind, -1).is(12);
            x.sum(kind - 1, false).is(Run.bits(due[kind - 1]));
        }
        x.fill(5, 6, LAST_LONG).is(12);
        x.sum(5, false).is(Run.bits(12 * 0x1p63));
        x.fill(5, 6, FIRST_LONG).is(12);
        x.sum(5, false).is(Run.bits(-12 * 0x1p63));
        x.fill(7, 6, FIRST_LONG).is(12);
        x.sum(7, false).is(Run.bits(-12 * 0x1p63));
    }

    private static void sumInOrder() {
        Run.sentence("17: (from 0.0 on, in order)");
        Run x = Run.withThings();
        x.set(6, 0, 6, 1L << 53).is(1);
        x.set(6, 1, 5, 1).is(1);
        x.set(6, 2, 5, 1).is(1);
        x.sum(6, false).is(Run.bits(0x1p53));
        x.set(6, 0, 5, 1).is(1);
        x.set(6, 2, 6, 1L << 53).is(1);
        x.sum(6, false).is(Run.bits(0x1p53 + 2));
        x.set(6, 0, 6, 1L << 53).is(1);
        x.set(6, 1, 5, 1).is(1);
        x.set(6, 2, 6, -(1L << 53)).is(1);
        x.sum(6, false).is(0);
        x.fill(6, 8, -1).is(3);
        x.set(6, 2, 8, 2).is(1);
        x.sum(6, false).is(0);
    }

    private static void sumItemsAreRounded() {
        Run.sentence("17: read as DOUBLES: each ITEM is rounded by itself");
        Run x = Run.withThings();
        x.fill(9, 6, (1L << 53) + 1).is(3);
        x.sum(9, false).is(Run.bits(3 * 0x1p53));
        x.sum(9, true).is(3 * ((1L << 53) + 1));
    }

    private static void sumNoItems() {
        Run.sentence("17: The sum of no ITEMS");
        Run x = new Run();
        for (int kind = 1; kind <= 11; kind++) {
            x.make(0, kind, 0).is(1);
            x.sum(0, true).is(0);
            x.sum(0, false).is(0);
        }
        x.faults(0, 0, 0);
    }

    private static void sumLength() {
        Run.sentence("17: FAULTS 1, 2 of the length first");
        Run x = Run.withThings();
        x.sum(8, true).is(LOST);
        x.sum(8, false).is(LOST);
        x.faults(2, 0, 0);
        x.sum(3, true).is(LOST);
        x.sum(4, false).is(LOST);
        x.faults(2, 2, 0);
    }

    private static void sumItems() {
        Run.sentence("17: then of each ITEM (one a call)");
        Run x = Run.withThings();
        x.sum(6, true).is(LOST);
        x.sum(7, true).is(LOST);
        x.sum(7, false).is(LOST);
        x.faults(0, 3, 0);
        for (int slot = 0; slot <= 2; slot++) {
            x.sum(slot, true).is(LOST);
            x.sum(slot, false).is(LOST);
        }
        x.faults(0, 9, 0);
        x.make(6, 7, 1).is(1);
        x.sum(6, true).is(LOST);
        x.faults(0, 10, 0);
    }

    // ---- promise 18

    private static void crestPlaces() {
        Run.sentence("18: The place of the greatest ITEM");
        for (int kind = 2; kind <= 8; kind++) {
            for (int place = 0; place < 12; place++) {
                Run x = new Run();
                x.make(0, kind, 12).is(1);
                x.set(0, place, kind, 1).is(1);
                x.crest(0).is(place);
            }
        }
    }

    private static void crestBelowZero() {
        Run.sentence("18: the greatest ITEM of those below 0");
        for (int kind : new int[] {2, 4, 5, 6, 7, 8}) {
            Run x = new Run();
            x.make(0, kind, 3).is(1);
            x.fill(0, kind, -2).is(3);
            x.set(0, 1, kind, -1).is(1);
            x.crest(0).is(1);
            x.set(0, 1, kind, -3).is(1);
            x.crest(0).is(0);
        }
    }

    private static void crestFirst() {
        Run.sentence("18: (the first of several)");
        Run x = Run.withThings();
        x.crest(5).is(0);
        x.set(5, 1, 5, 7).is(1);
        x.set(5, 2, 5, 7).is(1);
        x.crest(5).is(1);
        x.set(5, 0, 5, 7).is(1);
        x.crest(5).is(0);
    }

    private static void crestAsDoubles() {
        Run.sentence("18: read as DOUBLES");
        Run x = Run.withThings();
        x.fill(9, 6, 1L << 53).is(3);
        x.set(9, 1, 6, (1L << 53) + 1).is(1);
        x.crest(9).is(0);
        x.set(9, 1, 6, (1L << 53) + 2).is(1);
        x.crest(9).is(1);
        x.fill(9, 6, LAST_LONG - 1).is(3);
        x.set(9, 2, 6, LAST_LONG).is(1);
        x.crest(9).is(0);
    }

    private static void crestOne() {
        Run.sentence("18: The place of the one ITEM");
        Run x = new Run();
        x.make(0, 6, 1).is(1);
        x.set(0, 0, 6, FIRST_LONG).is(1);
        x.crest(0).is(0);
    }

    private static void crestNoItems() {
        Run.sentence("18: -10 without ITEMS");
        Run x = new Run();
        for (int kind = 1; kind <= 11; kind++) {
            x.make(0, kind, 0).is(1);
            x.crest(0).is(-10);
        }
        x.faults(0, 0, 0);
    }

    private static void crestFaults() {
        Run.sentence("18: FAULTS as sum()");
        Run x = Run.withThings();
        x.crest(8).is(MISSING);
        x.faults(1, 0, 0);
        x.crest(3).is(UNFIT);
        x.crest(4).is(UNFIT);
        x.crest(7).is(UNFIT);
        x.faults(1, 3, 0);
        for (int slot = 0; slot <= 2; slot++) {
            x.crest(slot).is(UNFIT);
        }
        x.faults(1, 6, 0);
    }

    // ---- promise 19

    private static void differPlaces() {
        Run.sentence("19: The first place at which ITEMS of two ROWS are not the same");
        for (int place = 0; place < 12; place++) {
            Run x = new Run();
            x.make(0, 2, 12).is(1);
            x.make(1, 8, 12).is(1);
            x.differ(0, 1).is(12);
            x.set(1, 11, 8, 1).is(1);
            x.set(0, place, 2, 1).is(1);
            x.differ(0, 1).is(place);
            x.differ(1, 0).is(place);
        }
    }

    private static void differAsDoubles() {
        Run.sentence("19: read as DOUBLES, are not the same (by ==)");
        Run x = Run.withThings();
        x.make(8, 6, 3).is(1);
        x.fill(9, 6, 1L << 53).is(3);
        x.fill(8, 6, (1L << 53) + 1).is(3);
        x.differ(8, 9).is(3);
        x.set(8, 2, 6, (1L << 53) + 2).is(1);
        x.differ(8, 9).is(2);
        x.fill(5, 5, 1).is(3);
        x.fill(6, 8, 8).is(3);
        x.differ(5, 6).is(3);
        x.set(6, 1, 8, 9).is(1);
        x.differ(5, 6).is(1);
        x.make(0, 7, 3).is(1);
        x.fill(0, 6, (1L << 24) + 1).is(3);
        x.fill(9, 6, 1L << 24).is(3);
        x.differ(0, 9).is(3);
        x.fill(9, 6, (1L << 24) + 1).is(3);
        x.differ(0, 9).is(0);
    }

    private static void differShorter() {
        Run.sentence("19: how many the shorter one has, if there is none");
        for (int n = 0; n <= 12; n++) {
            Run x = new Run();
            x.make(0, 5, n).is(1);
            x.make(1, 6, 12).is(1);
            x.differ(0, 1).is(n);
            x.differ(1, 0).is(n);
            x.fill(0, 5, 1).is(n);
            x.differ(0, 1).is(0);
        }
    }

    private static void differLongerTail() {
        Run.sentence("19: what the longer one has beyond is not looked at");
        Run x = new Run();
        x.make(0, 5, 2).is(1);
        x.make(1, 5, 3).is(1);
        x.set(1, 2, 5, 9).is(1);
        x.differ(0, 1).is(2);
        x.differ(1, 0).is(2);
    }

    private static void differItself() {
        Run.sentence("19: two ROWS that are the very same one");
        Run x = Run.withThings();
        x.fill(9, 6, FIRST_LONG).is(3);
        x.share(8, 9).is(1);
        x.differ(8, 9).is(3);
        x.differ(9, 9).is(3);
        x.differ(7, 7).is(UNFIT);
    }

    private static void differLengths() {
        Run.sentence("19: FAULTS of the length of the first, the second");
        Run x = Run.withThings();
        x.differ(8, 3).is(MISSING);
        x.differ(8, 8).is(MISSING);
        x.faults(2, 0, 0);
        x.differ(3, 8).is(UNFIT);
        x.faults(2, 1, 0);
        x.differ(5, 8).is(MISSING);
        x.faults(3, 1, 0);
        x.differ(5, 4).is(UNFIT);
        x.faults(3, 2, 0);
    }

    private static void differLengthsFirst() {
        Run.sentence("19: of the length .. then ITEM by ITEM");
        Run x = Run.withThings();
        x.differ(0, 8).is(MISSING);
        x.differ(7, 8).is(MISSING);
        x.faults(2, 0, 0);
        x.differ(0, 5).is(UNFIT);
        x.differ(5, 2).is(UNFIT);
        x.differ(7, 5).is(UNFIT);
        x.differ(5, 7).is(UNFIT);
        x.faults(2, 4, 0);
    }

    private static void differNoItems() {
        Run.sentence("19: ITEM by ITEM: none, if the shorter one has none");
        Run x = Run.withThings();
        for (int kind = 1; kind <= 11; kind++) {
            x.make(8, kind, 0).is(1);
            for (int slot : new int[] {0, 1, 2, 5, 6, 7, 8, 9}) {
                x.differ(8, slot).is(0);
                x.differ(slot, 8).is(0);
            }
        }
        x.faults(0, 0, 0);
        x.differ(8, 3).is(UNFIT);
        x.differ(3, 8).is(UNFIT);
        x.faults(0, 2, 0);
    }

    // ---- promises 20 and 21

    private static void heights() {
        Run.sentence("20: The HEIGHT of the PEG that is ITEM i");
        Run x = new Run();
        x.make(0, 9, 12).is(1);
        x.make(1, 10, 12).is(1);
        for (int i = 0; i < 12; i++) {
            x.grip(12, i).is(1);
            x.lay(0, i).is(1);
            x.grip(13, i + 1).is(1);
            x.lay(1, i).is(1);
        }
        for (int i = 0; i < 12; i++) {
            x.height(0, i).is(i);
            x.height(1, i).is(i + 1);
        }
        x.lift(1, 11).is(1);
        x.lay(0, 0).is(1);
        x.height(0, 0).is(12);
        x.faults(0, 0, 0);
    }

    private static void heightOfNothing() {
        Run.sentence("20: -1: NOTHING is there");
        Run x = Run.withThings();
        for (int slot = 0; slot <= 2; slot++) {
            x.height(slot, 0).is(-1);
            x.height(slot, 1).is(-1);
        }
        x.faults(0, 0, 0);
    }

    private static void heightNoRow() {
        Run.sentence("20: FAULTS 1, 2 (no ROW)");
        Run x = Run.withThings();
        x.height(8, 0).is(MISSING);
        x.height(8, -1).is(MISSING);
        x.faults(2, 0, 0);
        x.height(3, 0).is(UNFIT);
        x.height(4, 99).is(UNFIT);
        x.faults(2, 2, 0);
    }

    private static void heightNoPeg() {
        Run.sentence("20: FAULTS 2 (the ITEM is no PEG)");
        Run x = Run.withNumberRows(1);
        for (int slot = 0; slot <= 7; slot++) {
            x.height(slot, 0).is(UNFIT);
        }
        x.faults(0, 8, 0);
        x.make(8, 11, 2).is(1);
        x.swap(4, false).is(1);
        x.lay(8, 1).is(1);
        x.height(8, 0).is(-1);
        x.height(8, 1).is(UNFIT);
        x.faults(0, 9, 0);
    }

    private static void heightPlace() {
        Run.sentence("20: FAULTS 3 (ahead of the ITEM)");
        Run x = Run.withThings();
        for (int slot : new int[] {0, 1, 2, 5, 6, 7, 9}) {
            x.height(slot, -1).is(PLACE);
            x.height(slot, 3).is(PLACE);
            x.height(slot, FIRST_INT).is(PLACE);
            x.height(slot, LAST_INT).is(PLACE);
        }
        x.faults(0, 0, 28);
    }

    private static void toldMade() {
        Run.sentence("21: How many THINGS were MADE (what = 0)");
        Run x = new Run();
        x.told(0).is(0);
        for (int kind = 1; kind <= 13; kind++) {
            x.make(0, kind, 12).is(1);
            x.told(0).is(kind);
        }
        x.grip(12, 1).is(1);
        x.grip(13, 1).is(1);
        x.told(0).is(15);
        x.grip(5, 1).is(1);
        x.grip(0, 1).is(1);
        x.share(1, 0).is(1);
        x.swap(1, false).is(1);
        x.swap(2, true).is(1);
        x.told(0).is(15);
    }

    private static void toldFaults() {
        Run.sentence("21: FAULTS of each sort so far (1, 2, 3)");
        Run x = Run.withThings();
        x.faults(0, 0, 0);
        x.length(8).is(MISSING);
        x.faults(1, 0, 0);
        x.length(3).is(UNFIT);
        x.set(5, 0, 6, 1).is(UNFIT);
        x.faults(1, 2, 0);
        x.lift(5, 3).is(PLACE);
        x.lift(5, 3).is(PLACE);
        x.lift(5, 3).is(PLACE);
        x.faults(1, 2, 3);
        x.faults(1, 2, 3);
    }

    private static void toldOneACall() {
        Run.sentence("21: each call one at most");
        Run x = Run.withThings();
        x.carry(8, 0, 8, 0, 12, 5).is(MISSING);
        x.faults(1, 0, 0);
        x.fill(0, 5, 1).is(UNFIT);
        x.fill(5, 6, 1).is(UNFIT);
        x.faults(1, 2, 0);
        x.sum(7, true).is(LOST);
        x.crest(7).is(UNFIT);
        x.differ(7, 0).is(UNFIT);
        x.differ(8, 8).is(MISSING);
        x.faults(2, 5, 0);
        x.carry(5, 3, 9, 3, 12, 5).is(PLACE);
        x.faults(2, 5, 1);
    }

    private static void toldNoRefusals() {
        Run.sentence("21: FAULTS: what is refused is none");
        Run x = Run.withThings();
        x.length(10).is(UNKNOWN);
        x.read(-1, 0, 5).is(LOST);
        x.read(5, 0, 9).is(LOST);
        x.set(5, 0, 0, 1).is(OUTSIDE);
        x.carry(5, 0, 9, 0, 13, 5).is(OUTSIDE);
        x.hand(2).is(LOST);
        x.told(4).is(OUTSIDE);
        x.make(0, 1, 0).is(1);
        x.crest(0).is(-10);
        x.height(1, 0).is(-1);
        x.faults(0, 0, 0);
    }

    private static void toldOutside() {
        Run.sentence("21: OUTSIDE");
        Run x = Run.withThings();
        for (int what : new int[] {-1, 4, 5, FIRST_INT, LAST_INT}) {
            x.told(what).is(OUTSIDE);
        }
    }

    private static void slots() {
        newSlots();
        newHand();
        newObjectsAreApart();
        makeKinds();
        makeItems();
        makeZeros();
        makeNothings();
        makeHeights();
        makeFull();
        makeReplaces();
        shareNothing();
        shareItself();
        shareEveryKind();
        kindOfNothing();
        kindOfWhatIsEmpty();
        lengths();
        lengthFaults();
    }

    private static void items() {
        readKinds();
        readFaults();
        readOfLost();
        setKinds();
        setGivenThenWidened();
        setFaults();
        profiles();
        profileFaults();
    }

    private static void theHand() {
        gripNumbers();
        gripOtherKinds();
        gripHeights();
        gripNew();
        gripNothing();
        gripFull();
        gripNumbersWhenFull();
        liftNumbers();
        liftedNumberStays();
        liftThings();
        liftLeavesTheItem();
        liftNothing();
        liftFaults();
        layNumbers();
        layKeepsTheHand();
        layThings();
        layNothing();
        layFaults();
        swapOut();
        swapOverANumber();
        swapBack();
        swapTheVery();
        handKinds();
        handNumbers();
        handOutside();
    }

    private static void carryAndFill() {
        carryCounts();
        carryOutside();
        carryNone();
        carryAs();
        carryInOrder();
        carryReadingFirst();
        carryItemByItem();
        carryPastTheEnds();
        carryAhead();
        wentAtFirst();
        wentAfterRefusals();
        wentAfterFaults();
        wentAfterNone();
        wentAfterOthers();
        fillAll();
        fillKinds();
        fillFaults();
        fillNoItems();
        fillLength();
    }

    private static void wholeRows() {
        sumExact();
        sumWraps();
        sumDoubles();
        sumInOrder();
        sumItemsAreRounded();
        sumNoItems();
        sumLength();
        sumItems();
        crestPlaces();
        crestBelowZero();
        crestFirst();
        crestAsDoubles();
        crestOne();
        crestNoItems();
        crestFaults();
        differPlaces();
        differAsDoubles();
        differShorter();
        differLongerTail();
        differItself();
        differLengths();
        differLengthsFirst();
        differNoItems();
    }

    private static void heightsAndCounts() {
        heights();
        heightOfNothing();
        heightNoRow();
        heightNoPeg();
        heightPlace();
        toldMade();
        toldFaults();
        toldOneACall();
        toldNoRefusals();
        toldOutside();
    }

    public static void main(String[] args) {
        slots();
        items();
        theHand();
        carryAndFill();
        wholeRows();
        heightsAndCounts();
        Run.end();
    }
}

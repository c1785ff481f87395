/** Causes and genealogy, blame and shares, and the promises 20 to 28. */
final class CauseSentences extends Offices {
    static void all() {
        causes();
        blaming();
        genealogy();
        madeOf();
        whereabouts();
        trace();
        recall();
        recalled();
        blame();
        worst();
        outgoing();
        foundShare();
    }

    private static void causes() {
        test(22, "Causes. The cause of a defect is a machine, 0 to 5, or the office, 6, if a repair caused it.", () -> {
            for (int m = 0; m < 6; m++) {
                LotInspector x = new LotInspector();
                x.machine(m, 1, 2);
                x.raw(m, 0, 1);
                due("trace(0, 0, 2, true)", x.trace(0, 0, 2, true), m);
            }
            due("of a repair", repairedSeven().trace(0, 6, 3, true), 6);
            LotInspector x = repairedTwice();
            due("of a repair, behind another one", x.trace(2, 6, 3, true), 6);
            due("of the second repair", x.trace(2, 5, 3, true), 6);
        });
        test(22, "If a unit has a defect that was neither caused in this unit by its machine nor by a repair, it is from a "
                + "part: from the unit of the first part, in the order of the parts, that has a defect of this kind, and "
                + "its cause is the cause of that one.", () -> {
            LotInspector x = office();
            int none = blindLot(x, 0, 3);
            int first = blindLot(x, 1, 3);
            x.machine(5, 1, 0);
            int second = blindLot(x, 5, 3);
            int lot = x.make(2, 3, 1, second, first, none);
            due("of the first part", x.trace(lot, 0, 0, true), 5);
            lot = x.make(2, 3, 1, none, first, second);
            due("of the first part that has it", x.trace(lot, 0, 0, true), 1);
            due("which is its unit", x.trace(lot, 0, 0, false), first * 1000 + 1);
            due("of its own machine", x.trace(lot, 0, 1, true), 2);
            x.inspect(lot);
            int outer = x.make(0, 3, 1, lot, -1, -1);
            due("of a part of a part", x.trace(outer, 0, 0, true), 1);
        });
        test(22, "The origin of a defect is the unit in which it was caused.", () -> {
            LotInspector x = family();
            due("in a part of a part of a part", x.trace(4, 3, 0, false), 3);
            due("in a second part", x.trace(4, 3, 1, false), 1003);
            due("in between", x.trace(4, 1, 3, false), 3001);
            due("in the unit itself", x.trace(4, 1, 2, false), 4001);
            due("in a raw unit", x.trace(0, 11, 0, false), 11);
            due("by a repair", repairedSeven().trace(0, 6, 3, false), 6);
            due("by the repair before the latest", repairedTwice().trace(2, 6, 3, false), 2006);
            LotInspector y = office();
            int part = blindLot(y, 4, 7);
            y.product(0, 0, 8, 8);
            int lot = y.make(0, 0, 7, part, -1, -1);
            due("in the part", y.trace(lot, 6, 3, false), 6);
            y.inspect(lot);
            y.sort(lot);
            due("lost, and by a repair again", y.trace(lot, 6, 3, false), lot * 1000 + 6);
            due("whose cause is the office", y.trace(lot, 6, 3, true), 6);
            due("while the part keeps its own", y.trace(part, 6, 3, true), 4);
        });
    }

    /** Seven of the eight units of lot 0 are repaired, so that the unit 6 has a defect that a repair caused. */
    private static LotInspector repairedSeven() {
        LotInspector x = office();
        x.product(0, 0, 15, 1);
        x.raw(1, 0, 8);
        x.inspect(0);
        x.sort(0);
        return x;
    }

    /** Each unit of lot 2 is repaired once for the kind 0 and once for the kind 1: 6 was the seventh, 5 the 14th. */
    private static LotInspector repairedTwice() {
        LotInspector x = office();
        int lot = x.make(0, 0, 8, blindLot(x, 1, 8), blindLot(x, 2, 8), -1);
        for (int kinds = 1; kinds < 3; kinds++) {
            x.product(0, 0, kinds, kinds);
            x.inspect(lot);
            x.sort(lot);
        }
        return x;
    }

    private static void blaming() {
        test(25, "When a unit is found by inspecting or sorting, each of its defects of a kind that is inspected is blamed "
                + "on its cause;", () -> {
            LotInspector x = office();
            int a = blindLot(x, 1, 8);
            int b = blindLot(x, 2, 8);
            x.product(0, 0, 1 | 8, 0);
            int lot = x.make(4, 0, 8, a, b, -1);
            x.inspect(lot);
            due("by inspecting, the cause in a part", x.blame(1, 0), 2);
            due("by inspecting, a kind that is not inspected", x.blame(2, 1), 0);
            due("by inspecting, its own machine", x.blame(4, 3), 2);
            x.sort(lot);
            due("by sorting, those found now only", x.blame(1, 0), 8);
            due("by sorting, a kind that is not inspected", x.blame(2, 1), 0);
            due("by sorting, its own machine", x.blame(4, 3), 8);
            due("nothing else", x.blame(0, -1) + x.blame(3, -1) + x.blame(5, -1) + x.blame(6, -1), 0);
        });
        test(25, "when it is complained of, each of its defects is.", () -> {
            LotInspector x = office();
            int lot = x.make(4, 3, 2, blindLot(x, 1, 2), blindLot(x, 2, 2), -1);
            x.inspect(lot);
            x.ship(lot);
            x.complain(lot, 1);
            due("all its defects", x.blame(1, 0) * 100 + x.blame(2, 1) * 10 + x.blame(4, 3), 111);
        });
        test(25, "Defects are blamed as they are ahead of the repair,", () -> {
            LotInspector x = repairedSeven();
            due("the defects that were repaired", x.blame(1, 0), 8);
            due("not the one that a repair caused", x.blame(6, 3), 0);
            x.seed(1);
            // Of eight, 6 and 4 are drawn.
            x.inspect(0);
            due("this one, when it is found", x.blame(6, 3), 1);
        });
    }

    private static void genealogy() {
        test(24, "Genealogy. A unit contains another one if it was made of it, or of a unit that contains it.", () -> {
            LotInspector x = family();
            due("units made of those of 3", x.recalled(3, 0), 2 + 4);
            due("units that contain those of 2", x.recalled(2, 0), 4 + 2 + 4);
            due("units that contain those of 1", x.recalled(1, 0), 6 + 2 + 4);
            due("units that contain those of 0", x.recalled(0, 0), 2 + 4 + 2 + 4);
        });
        test(23, "The recall of a lot consists of the lot and all lots with units that contain a unit of it.", () -> {
            LotInspector x = family();
            due("recall(0)", x.recall(0), 0b11101);
            due("recall(1)", x.recall(1), 0b11010);
            due("recall(2)", x.recall(2), 0b11100);
            due("recall(3)", x.recall(3), 0b11000);
            due("recall(4)", x.recall(4), 0b10000);
            due("recall(5)", x.recall(5), 0b100000);
            blindLot(x, 0, 3);
            x.make(0, 3, 2, 6, 3, -1);
            due("of 3, of which a lot was made again", x.recall(0), 0b10011101);
            due("of 6, whose partner does not count", x.recall(6), 0b11000000);
            // Lot 2 has units of 0, and 8 is made of those units of 2 that are left.
            x.make(0, 3, 1, 2, -1, -1);
            due("of 2", x.recall(2), 0b110011100);
        });
        test(24, "A unit counts once in a recall, also if it contains several units of the lot.", () -> {
            LotInspector x = office();
            blindLot(x, 0, 6);
            x.make(0, 3, 2, 0, -1, -1);
            x.inspect(1);
            x.make(0, 3, 2, 0, 1, -1);
            due("here: two of 0, two of 2", x.recalled(0, 0), 4);
            due("used: four of 0, two of 1", x.recalled(0, 3), 6);
            due("recall(0)", x.recall(0), 0b111);
        });
    }

    /** Lot 4 is made of the lots 2, 0 and 1, after lot 3 took five units of lot 0. */
    private static LotInspector threeParts() {
        LotInspector x = office();
        blindLot(x, 1, 9);
        blindLot(x, 2, 3);
        blindLot(x, 3, 2);
        x.make(0, 0, 5, 0, -1, -1);
        x.make(0, 0, 2, 2, 0, 1);
        return x;
    }

    private static void madeOf() {
        test(20, "Returns the unit of a part of which a unit was made.", () -> {
            LotInspector x = threeParts();
            due("madeOf(4, 0, 0)", x.madeOf(4, 0, 0), 2000);
            due("madeOf(4, 1, 0)", x.madeOf(4, 1, 0), 2001);
            due("madeOf(3, 4, 0)", x.madeOf(3, 4, 0), 4);
        });
        test(20, "`lot`: the lot", () -> {
            LotInspector x = threeParts();
            due("madeOf(3, 1, 0)", x.madeOf(3, 1, 0), 1);
            due("madeOf(4, 1, 0)", x.madeOf(4, 1, 0), 2001);
        });
        test(20, "`unit`: the unit", () -> {
            LotInspector x = threeParts();
            for (int u = 0; u < 5; u++) {
                due("madeOf(3, " + u + ", 0)", x.madeOf(3, u, 0), u);
            }
        });
        test(20, "`part`: the index of the part, from 0", () -> {
            LotInspector x = threeParts();
            due("0", x.madeOf(4, 1, 0), 2001);
            due("1", x.madeOf(4, 1, 1), 6);
            due("2", x.madeOf(4, 1, 2), 1001);
        });
        test(20, "Returns 1000 times the number of the lot that is the part, plus the number of the unit of it.", () -> {
            LotInspector x = office();
            for (int i = 0; i < 22; i++) {
                x.raw(0, 0, 1);
            }
            int part = blindLot(x, 0, 200);
            x.make(0, 0, 200, part, -1, -1);
            due("the last unit", x.madeOf(23, 199, 0), 22199);
            due("the first unit", x.madeOf(23, 0, 0), 22000);
            x.undo();
            due("where it is now", x.whereabouts(22, 199), 22199);
        });
        test(20, "Throws `IndexOutOfBoundsException` if there is no such lot or unit", () -> {
            for (int n : beside(0, 4)) {
                refused("madeOf(" + n + ", 0, 0)", PLACE, CauseSentences::threeParts, x -> x.madeOf(n, 0, 0));
                refused("madeOf(" + n + ", 0, 3), the place first", PLACE, CauseSentences::threeParts,
                        x -> x.madeOf(n, 0, 3));
            }
            for (int n : beside(0, 1)) {
                refused("madeOf(4, " + n + ", 0)", PLACE, CauseSentences::threeParts, x -> x.madeOf(4, n, 0));
                refused("madeOf(4, " + n + ", -1), the place first", PLACE, CauseSentences::threeParts,
                        x -> x.madeOf(4, n, -1));
            }
        });
        test(20, "Throws `NoSuchElementException` if the lot has no such part", () -> {
            for (int n : beside(0, 2)) {
                refused("madeOf(4, 0, " + n + ") of three parts", NOTHING, CauseSentences::threeParts,
                        x -> x.madeOf(4, 0, n));
            }
            for (int n : beside(0, 0)) {
                refused("madeOf(3, 0, " + n + ") of one part", NOTHING, CauseSentences::threeParts,
                        x -> x.madeOf(3, 0, n));
            }
            refused("madeOf(2, 0, 2) of two parts", NOTHING, Offices::busy, x -> x.madeOf(2, 0, 2));
            due("madeOf(2, 0, 1)", busy().madeOf(2, 0, 1), 1000);
            refused("madeOf(0, 0, 0) of a raw lot", NOTHING, CauseSentences::threeParts, x -> x.madeOf(0, 0, 0));
        });
    }

    private static void whereabouts() {
        test(21, "Returns where a unit is now.", () -> {
            LotInspector x = office();
            blindLot(x, 0, 2);
            due("not used", x.whereabouts(0, 1), 1);
            x.make(0, 3, 2, 0, -1, -1);
            due("used", x.whereabouts(0, 1), 1001);
            x.inspect(1);
            x.make(0, 3, 2, 1, -1, -1);
            due("used again", x.whereabouts(0, 1), 2001);
            x.undo();
            due("not used again after all", x.whereabouts(0, 1), 1001);
        });
        test(21, "`lot`: the lot", () -> {
            LotInspector x = family();
            due("whereabouts(0, 9)", x.whereabouts(0, 9), 2009);
            due("whereabouts(1, 9)", x.whereabouts(1, 9), 1009);
        });
        test(21, "`unit`: the unit", () -> {
            LotInspector x = family();
            due("whereabouts(0, 3)", x.whereabouts(0, 3), 4003);
            due("whereabouts(0, 4)", x.whereabouts(0, 4), 3004);
            due("whereabouts(0, 11)", x.whereabouts(0, 11), 11);
        });
        test(21, "Returns 1000 times the number of the lot, plus the number of the unit, of the unit that contains it and "
                + "is not used, or of the unit itself if it is not used.", () -> {
            LotInspector x = family();
            due("three lots further", x.whereabouts(0, 0), 4000);
            due("two lots further", x.whereabouts(0, 5), 3005);
            due("one lot further", x.whereabouts(0, 6), 2006);
            due("itself, a part", x.whereabouts(0, 10), 10);
            due("itself, of the last lot", x.whereabouts(4, 3), 4003);
            due("of a second part", x.whereabouts(1, 3), 4003);
            x.ship(3);
            due("in a shipped one", x.whereabouts(2, 5), 3005);
            LotInspector y = chain();
            due("23 lots further", y.whereabouts(0, 0), 23000);
        });
        test(21, "Throws `IndexOutOfBoundsException` if there is no such lot or unit", () -> {
            for (int n : beside(0, 7)) {
                refused("whereabouts(" + n + ", 0)", PLACE, Offices::busy, x -> x.whereabouts(n, 0));
            }
            for (int n : beside(0, 2)) {
                refused("whereabouts(0, " + n + ")", PLACE, Offices::busy, x -> x.whereabouts(0, n));
            }
        });
    }

    /** Each of 24 lots but the first one is made of the lot before. */
    private static LotInspector chain() {
        LotInspector x = office();
        blindLot(x, 1, 1);
        for (int i = 1; i < 24; i++) {
            x.make(0, 3, 1, i - 1, -1, -1);
            x.inspect(i);
        }
        return x;
    }

    private static void trace() {
        test(22, "Returns the origin of a defect of a unit, or its cause.", () -> {
            LotInspector x = family();
            due("the origin", x.trace(3, 2, 3, false), 3002);
            due("the cause", x.trace(3, 2, 3, true), 4);
            x.machine(4, 0, 0);
            due("whatever the machine does now", x.trace(3, 2, 3, true), 4);
            due("nothing changes", x.trace(3, 2, 3, false), 3002);
            due("through 23 lots", chain().trace(23, 0, 0, false), 0);
            due("through 23 lots, the cause", chain().trace(23, 0, 0, true), 1);
        });
        test(22, "`lot`: the lot", () -> {
            LotInspector x = family();
            due("of 2", x.trace(2, 0, 0, false), 0);
            due("of 5", x.trace(5, 0, 0, false), 5000);
        });
        test(22, "`unit`: the unit", () -> {
            LotInspector x = family();
            due("3/0", x.trace(3, 0, 1, false), 1000);
            due("3/5", x.trace(3, 5, 1, false), 1005);
        });
        test(22, "`kind`: the kind of the defect", () -> {
            LotInspector x = family();
            int[] causes = {1, 2, 3, 4};
            for (int kind = 0; kind < 4; kind++) {
                due("the kind " + kind, x.trace(4, 0, kind, true), causes[kind]);
            }
        });
        test(22, "`isCause`: true for the cause, false for the origin", () -> {
            LotInspector x = family();
            due("true", x.trace(4, 2, 3, true), 4);
            due("false", x.trace(4, 2, 3, false), 3002);
        });
        test(22, "Returns the cause, 0 to 6; or 1000 times the number of the lot, plus the number of the unit, of the "
                + "origin.", () -> {
            LotInspector x = new LotInspector();
            for (int i = 0; i < 23; i++) {
                x.raw(0, 0, 1);
            }
            x.machine(0, 1, 3);
            x.raw(0, 0, 200);
            due("the cause", x.trace(23, 199, 3, true), 0);
            due("the origin", x.trace(23, 199, 3, false), 23199);
        });
        test(22, "Throws `IndexOutOfBoundsException` if there is no such lot or unit", () -> {
            for (int n : beside(0, 7)) {
                refused("trace(" + n + ", 0, 0, true)", PLACE, Offices::busy, x -> x.trace(n, 0, 0, true));
                refused("trace(" + n + ", 0, 4, true), the place first", PLACE, Offices::busy,
                        x -> x.trace(n, 0, 4, true));
            }
            for (int n : beside(0, 2)) {
                refused("trace(1, " + n + ", 0, false)", PLACE, Offices::busy, x -> x.trace(1, n, 0, false));
                refused("trace(1, " + n + ", -1, false), the place first", PLACE, Offices::busy,
                        x -> x.trace(1, n, -1, false));
            }
        });
        test(22, "Throws `IllegalArgumentException` if there is no such kind", () -> {
            for (int n : beside(0, 3)) {
                refused("trace(1, 0, " + n + ", true)", NUMBER, Offices::busy, x -> x.trace(1, 0, n, true));
                refused("trace(0, 0, " + n + ", false) of a unit without defects, the number first", NUMBER,
                        Offices::busy, x -> x.trace(0, 0, n, false));
            }
            due("a number that is a kind when it wraps around",
                    thrownBy(busy(), x -> x.trace(1, 0, 32, true)), NUMBER.getName());
        });
        test(22, "Throws `NoSuchElementException` if the unit has no such defect", () -> {
            for (int kind = 1; kind < 4; kind++) {
                int other = kind;
                refused("trace(1, 0, " + kind + ", true)", NOTHING, Offices::busy, x -> x.trace(1, 0, other, true));
                refused("trace(1, 0, " + kind + ", false)", NOTHING, Offices::busy, x -> x.trace(1, 0, other, false));
            }
            refused("a unit without defects", NOTHING, Offices::busy, x -> x.trace(0, 0, 0, true));
            refused("a defect that was repaired", NOTHING, Offices::busy, x -> x.trace(6, 0, 0, true));
        });
    }

    private static void recall() {
        test(23, "Returns the recall of a lot.", () -> {
            LotInspector x = family();
            due("recall(3)", x.recall(3), 0b11000);
            due("recall(3) again", x.recall(3), 0b11000);
            due("recall(0) after that", x.recall(0), 0b11101);
        });
        test(23, "`lot`: the lot", () -> {
            LotInspector x = family();
            due("recall(4)", x.recall(4), 1 << 4);
            due("recall(5)", x.recall(5), 1 << 5);
        });
        test(23, "Returns the set of lots, bit l for lot l.", () -> {
            LotInspector x = chain();
            due("all 24", x.recall(0), 0xffffff);
            due("the last two", x.recall(22), 0xc00000);
            due("the last one", x.recall(23), 0x800000);
            LotInspector y = family();
            y.undo();
            y.undo();
            y.undo();
            y.undo();
            due("a lot that was undone does not count", y.recall(0), 0b1101);
        });
        test(23, "Throws `IndexOutOfBoundsException` if there is no such lot", () -> {
            for (int n : beside(0, 7)) {
                refused("recall(" + n + ")", PLACE, Offices::busy, x -> x.recall(n));
            }
            refused("recall(24) of 24", PLACE, Offices::full, x -> x.recall(24));
        });
    }

    private static void recalled() {
        test(24, "Returns how many units of the recall of a lot, the units of the lot itself and those that contain one of "
                + "them, are in a state.", () -> {
            LotInspector x = family();
            due("here", x.recalled(0, 0), 2 + 4 + 2 + 4);
            due("used", x.recalled(0, 3), 10 + 6 + 4);
            due("of the second part: its own and those that contain one", x.recalled(1, 3), 6 + 4);
            due("a unit of 2 that contains none of 1 does not count", x.recalled(1, 0), 6 + 2 + 4);
        });
        test(24, "`lot`: the lot", () -> {
            LotInspector x = family();
            due("recalled(4, 0)", x.recalled(4, 0), 4);
            due("recalled(5, 0)", x.recalled(5, 0), 5);
        });
        test(24, "`state`: the state, 0 to 4", () -> {
            LotInspector x = busy();
            int[][] due = {{3, 0, 0, 2, 0}, {1, 2, 0, 0, 0}, {0, 0, 0, 0, 2}, {0, 0, 2, 0, 0}};
            int[] lots = {0, 3, 4, 7};
            for (int i = 0; i < lots.length; i++) {
                for (int state = 0; state < 5; state++) {
                    due("recalled(" + lots[i] + ", " + state + ")", x.recalled(lots[i], state), due[i][state]);
                }
            }
        });
        test(24, "Returns the number of units.", () -> {
            LotInspector x = office();
            blindLot(x, 0, 200);
            x.make(0, 3, 200, 0, -1, -1);
            due("used", x.recalled(0, 3), 200);
            due("here", x.recalled(0, 0), 200);
            due("of the second one", x.recalled(1, 0) * 1000 + x.recalled(1, 3), 200000);
        });
        test(24, "Throws `IndexOutOfBoundsException` if there is no such lot", () -> {
            for (int n : beside(0, 7)) {
                refused("recalled(" + n + ", 0)", PLACE, Offices::busy, x -> x.recalled(n, 0));
                refused("recalled(" + n + ", 5), the place first", PLACE, Offices::busy, x -> x.recalled(n, 5));
            }
        });
        test(24, "Throws `IllegalArgumentException` if state is not 0 to 4", () -> {
            for (int n : beside(0, 4)) {
                refused("recalled(7, " + n + ")", NUMBER, Offices::busy, x -> x.recalled(7, n));
            }
        });
    }

    private static void blame() {
        test(25, "Returns how many defects of a kind were blamed on a cause.", () -> {
            LotInspector x = office();
            due("none at first", x.blame(1, 0), 0);
            x.product(0, 0, 15, 0);
            inspected(x, 1);
            due("three", x.blame(1, 0), 3);
            x.sort(0);
            due("nine", x.blame(1, 0), 9);
        });
        test(25, "`cause`: the cause, 0 to 6", () -> {
            LotInspector x = repairedSeven();
            x.machine(0, 1, 0);
            x.inspect(x.raw(0, 1, 1));
            x.machine(5, 1, 0);
            x.inspect(x.raw(5, 1, 1));
            x.seed(1);
            x.inspect(0);
            int[] due = {1, 8, 0, 0, 0, 1, 1};
            for (int cause = 0; cause <= 6; cause++) {
                due("blame(" + cause + ", -1)", x.blame(cause, -1), due[cause]);
            }
        });
        test(25, "`kind`: the kind, or -1 for all kinds", () -> {
            LotInspector x = office();
            for (int kind = 0; kind < 4; kind++) {
                x.machine(5, 1, kind);
                x.inspect(x.raw(5, kind, 8 + kind));
            }
            int[] due = {2, 3, 3, 3};
            for (int kind = 0; kind < 4; kind++) {
                due("blame(5, " + kind + ")", x.blame(5, kind), due[kind]);
                due("blame(4, " + kind + ")", x.blame(4, kind), 0);
            }
            due("blame(5, -1)", x.blame(5, -1), 11);
        });
        test(25, "Returns the number.", () -> {
            LotInspector x = office();
            x.product(0, 0, 15, 0);
            x.raw(1, 0, 200);
            x.inspect(0);
            x.sort(0);
            due("200", x.blame(1, 0), 200);
        });
        test(25, "Throws `IllegalArgumentException` if there is no such cause or kind", () -> {
            for (int n : beside(0, 6)) {
                refused("blame(" + n + ", 0)", NUMBER, Offices::busy, x -> x.blame(n, 0));
                refused("blame(" + n + ", -1)", NUMBER, Offices::busy, x -> x.blame(n, -1));
            }
            for (int n : beside(-1, 3)) {
                refused("blame(6, " + n + ")", NUMBER, Offices::busy, x -> x.blame(6, n));
            }
        });
    }

    /** 43 is blamed three times; 10, 21, 50 and 52 twice each, in another order. */
    private static LotInspector blamed() {
        LotInspector x = office();
        x.product(0, 0, 15, 0);
        x.machine(5, 1, 2);
        x.inspect(x.raw(5, 0, 8));
        x.inspect(x.raw(2, 0, 8));
        x.machine(5, 1, 0);
        x.inspect(x.raw(5, 1, 8));
        x.inspect(x.raw(4, 1, 9));
        x.inspect(x.raw(1, 2, 8));
        return x;
    }

    private static void worst() {
        test(26, "Returns a cause and a kind by how often defects of the kind were blamed on the cause: the most often "
                + "blamed ones first, equal ones by ascending causes, then by ascending kinds; those that were never "
                + "blamed are left out.", () -> {
            LotInspector x = blamed();
            int[] due = {43, 10, 21, 50, 52};
            for (int rank = 0; rank < due.length; rank++) {
                due("worst(" + rank + ")", x.worst(rank), due[rank]);
            }
            refused("those never blamed", NOTHING, CauseSentences::blamed, y -> y.worst(5));
            LotInspector z = office();
            z.machine(0, 1, 0);
            z.inspect(z.raw(0, 0, 9));
            z.inspect(z.raw(1, 0, 8));
            z.inspect(z.raw(0, 1, 9));
            due("the machine 0 six times, then the machine 1", z.worst(0) * 100 + z.worst(1), 10);
        });
        test(26, "`rank`: the position in this order, from 0", () -> {
            LotInspector x = blamed();
            due("worst(1)", x.worst(1), 10);
            due("worst(0)", x.worst(0), 43);
            // Three more for the machine 2: it is the first now.
            x.inspect(x.raw(2, 2, 9));
            due("worst(0) later", x.worst(0), 21);
            due("worst(1) later", x.worst(1), 43);
        });
        test(26, "Returns 10 times the cause plus the kind.", () -> {
            LotInspector x = office();
            x.product(0, 0, 15, 1);
            x.inspect(x.raw(1, 0, 8));
            x.sort(0);
            x.seed(1);
            x.inspect(0);
            due("the machine 1, the kind 0", x.worst(0), 10);
            due("the office, the kind 3", x.worst(1), 63);
            LotInspector y = new LotInspector();
            y.machine(0, 1, 0);
            y.inspect(y.raw(0, 0, 1));
            due("the machine 0, the kind 0", y.worst(0), 0);
        });
        test(26, "Throws `NoSuchElementException` if there is no such position", () -> {
            for (int n : beside(0, 4)) {
                refused("worst(" + n + ")", NOTHING, CauseSentences::blamed, x -> x.worst(n));
            }
            refused("worst(0) if nothing was blamed", NOTHING, Offices::office, x -> x.worst(0));
            refused("worst(27)", NOTHING, Offices::busy, x -> x.worst(27));
            refused("worst(28)", NOTHING, Offices::busy, x -> x.worst(28));
        });
    }

    private static LotInspector shipped(int machine, int... sizes) {
        LotInspector x = office();
        x.machine(5, 3, 2);
        for (int size : sizes) {
            x.ship(blindLot(x, machine, size));
        }
        x.product(3, 5, 4, 0);
        return x;
    }

    private static void outgoing() {
        test(27, "Returns the share of bad units among the shipped units of a product: the two numbers converted to float "
                + "and divided.", () -> {
            due("3 of 10", shipped(5, 10).outgoing(3), Float.floatToIntBits(3.0f / 10.0f));
            due("6 of 19, of two lots", shipped(5, 10, 9).outgoing(3), Float.floatToIntBits(6.0f / 19.0f));
            LotInspector x = shipped(5, 10);
            blindLot(x, 3, 4);
            x.product(3, 5, 4, 0);
            due("what is not shipped does not count", x.outgoing(3), Float.floatToIntBits(3.0f / 10.0f));
            x.product(3, 5, 11, 0);
            due("bad as the product is now", x.outgoing(3), 0);
        });
        test(27, "`product`: the product", () -> {
            LotInspector x = shipped(5, 10);
            x.ship(inspectedLot(x, 0, 1, 4));
            due("outgoing(1)", x.outgoing(1), 0);
            due("outgoing(3)", x.outgoing(3), Float.floatToIntBits(0.3f));
        });
        test(27, "Returns the bits of the share, as Float.floatToIntBits gives them.", () -> {
            due("1.0", shipped(3, 7).outgoing(3), 0x3f800000);
            due("2 of 6", shipped(5, 2, 2, 2).outgoing(3), Float.floatToIntBits(2.0f / 6.0f));
            due("0.0", shipped(0, 7).outgoing(3), 0);
            due("one third", shipped(5, 3).outgoing(3), 0x3eaaaaab);
            LotInspector x = shipped(0, 200, 200, 199);
            x.ship(blindLot(x, 3, 1));
            x.product(3, 5, 4, 0);
            due("1 of 600", x.outgoing(3), Float.floatToIntBits(1.0f / 600.0f));
            for (int all = 2; all < 50; all++) {
                int bad = all * 7 / 10;
                due(bad + " of " + all, someBad(all, bad), Float.floatToIntBits((float) bad / (float) all));
                due("all of " + all + " but one", someBad(all, all - 1),
                        Float.floatToIntBits((float) (all - 1) / (float) all));
            }
        });
        test(27, "Throws `IndexOutOfBoundsException` if there is no such product", () -> {
            for (int n : beside(0, 3)) {
                refused("outgoing(" + n + ")", PLACE, Offices::busy, x -> x.outgoing(n));
            }
        });
        test(27, "Throws `ArithmeticException` if none of its units is shipped", () -> {
            for (int p = 0; p < 3; p++) {
                int product = p;
                refused("outgoing(" + p + ")", SHARE, Offices::busy, x -> x.outgoing(product));
            }
            refused("outgoing(0) without lots", SHARE, Offices::office, x -> x.outgoing(0));
            refused("outgoing(3) after undoing", SHARE, CauseSentences::shippedAndUndone, x -> x.outgoing(3));
        });
    }

    /** The outgoing share of a product with so many shipped units, of which so many are bad. */
    private static int someBad(int all, int bad) {
        LotInspector x = office();
        x.ship(blindLot(x, 0, all - bad));
        if (bad > 0) {
            x.ship(blindLot(x, 1, bad));
        }
        x.product(3, 5, 1, 0);
        return x.outgoing(3);
    }

    private static LotInspector shippedAndUndone() {
        LotInspector x = office();
        x.ship(blindLot(x, 1, 2));
        x.undo();
        return x;
    }

    /** As many lots as there can be, of the good ones and then of bad ones, with the share as it is after each. */
    private static void dueShares(int good) {
        LotInspector x = office();
        int found = 0;
        int sampled = 0;
        for (int lot = 0; lot < 24 && x.policy(0, 3) != 3; lot++) {
            x.inspect(x.raw(lot < good ? 0 : 1, 0, 20 + 7 * lot));
            sampled += x.lot(lot, 5);
            found += x.lot(lot, 7);
            due(found + " of " + sampled, x.foundShare(0), Double.doubleToLongBits((double) found / (double) sampled));
        }
    }

    private static void foundShare() {
        test(28, "Returns the share of units that were found among the units of all samples of first inspections of lots of "
                + "a product: the two numbers converted to double and divided.", () -> {
            LotInspector x = office();
            x.product(0, 0, 15, 15);
            inspected(x, 1);
            due("3 of 3", x.foundShare(0), Double.doubleToLongBits(1.0));
            x.sort(0);
            x.inspect(0);
            due("second inspections do not count", x.foundShare(0), Double.doubleToLongBits(1.0));
            x.inspect(x.raw(0, 0, 60));
            due("3 of 16", x.foundShare(0), Double.doubleToLongBits(3.0 / 16.0));
            x.inspect(x.raw(0, 0, 16));
            due("3 of 21", x.foundShare(0), Double.doubleToLongBits(3.0 / 21.0));
            x.undo();
            due("3 of 16 again", x.foundShare(0), Double.doubleToLongBits(3.0 / 16.0));
        });
        test(28, "`product`: the product", () -> {
            LotInspector x = office();
            inspected(x, 1);
            inspectedLot(x, 0, 2, 9);
            due("foundShare(0)", x.foundShare(0), Double.doubleToLongBits(1.0));
            due("foundShare(2)", x.foundShare(2), 0L);
        });
        test(28, "Returns the bits of the share, as Double.doubleToLongBits gives them.", () -> {
            due("1.0", after("r").foundShare(0), 0x3ff0000000000000L);
            due("0.5", after("ra").foundShare(0), 0x3fe0000000000000L);
            due("one third", after("raa").foundShare(0), 0x3fd5555555555555L);
            due("two thirds", after("rra").foundShare(0), 0x3fe5555555555555L);
            due("0.0", after("aa").foundShare(0), 0L);
            for (int good = 0; good < 8; good++) {
                dueShares(good);
            }
        });
        test(28, "Throws `IndexOutOfBoundsException` if there is no such product", () -> {
            for (int n : beside(0, 3)) {
                refused("foundShare(" + n + ")", PLACE, Offices::busy, x -> x.foundShare(n));
            }
        });
        test(28, "Throws `ArithmeticException` if there was no such inspection", () -> {
            refused("without lots", SHARE, Offices::office, x -> x.foundShare(0));
            refused("with lots of other products", SHARE, () -> after("ra"), x -> x.foundShare(1));
            refused("with a lot that was not inspected", SHARE, Offices::full, x -> x.foundShare(1));
        });
    }
}

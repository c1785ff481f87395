/** Defects and machines, and the promises 1 to 3. */
final class MachineSentences extends Offices {
    static void all() {
        newObject();
        defects();
        machines();
        setting();
        worked();
    }

    private static void newObject() {
        test(1, "Creates an office without lots.", () -> {
            LotInspector x = new LotInspector();
            due("count(0)", x.count(0), 0);
            due("count(1)", x.count(1), 0);
            refused("lot(0, 0)", PLACE, LotInspector::new, y -> y.lot(0, 0));
            LotInspector other = new LotInspector();
            other.raw(0, 0, 3);
            due("count(0) when another office has a lot", x.count(0), 0);
        });
    }

    private static void defects() {
        test(2, "Defects. There are 4 kinds of defects, numbered from 0;", () -> {
            LotInspector x = office();
            for (int kind = 0; kind < 4; kind++) {
                int lot = x.raw(kind + 1, 0, 1);
                due("trace(" + lot + ", 0, " + kind + ", true)", x.trace(lot, 0, kind, true), kind + 1);
                due("blame(0, " + kind + ")", x.blame(0, kind), 0);
            }
            refused("a fifth kind", NUMBER, Offices::office, y -> y.machine(0, 1, 4));
        });
        test(18, "a set of kinds is a bit mask, bit k for the kind k.", () -> {
            LotInspector x = office();
            for (int kind = 0; kind < 4; kind++) {
                int lot = x.raw(kind + 1, 0, 1);
                due("unit(" + lot + ", 0, 1)", x.unit(lot, 0, 1), 1 << kind);
                for (int other = 0; other < 4; other++) {
                    x.product(0, 5, 1 << other, 0);
                    due("unit(" + lot + ", 0, 3) when " + other + " is inspected", x.unit(lot, 0, 3),
                            kind == other ? 1 : 0);
                }
            }
        });
    }

    private static void machines() {
        test(3, "Machines. There are 6 machines, numbered from 0.", () -> {
            LotInspector x = new LotInspector();
            for (int m = 0; m < 6; m++) {
                x.raw(m, 0, m + 1);
            }
            for (int m = 0; m < 6; m++) {
                due("worked(" + m + ")", x.worked(m), m + 1);
            }
            refused("a seventh machine", PLACE, Offices::busy, y -> y.worked(6));
        });
        test(2, "A machine has a period, 0 to 50, at first 0, a kind of defects, at first 0, and a count, at first 0.",
                () -> {
            LotInspector x = new LotInspector();
            for (int m = 0; m < 6; m++) {
                due("worked(" + m + ")", x.worked(m), 0);
                due("machine(" + m + ", 50, 3)", x.machine(m, 50, 3), 0);
                due("machine(" + m + ", 0, 0)", x.machine(m, 0, 0), 503);
            }
        });
        test(3, "To work on a unit means that the count increases by 1,", () -> {
            LotInspector x = office();
            x.raw(0, 0, 200);
            due("worked(0) after 200 units", x.worked(0), 200);
            x.raw(0, 0, 1);
            due("worked(0) after one more", x.worked(0), 201);
            x.raw(1, 0, 3);
            due("worked(1) of a machine that causes defects", x.worked(1), 3);
        });
        test(10, "and that the machine causes a defect of its kind in the unit if the period is not 0 and the count is "
                + "a multiple of it then.", () -> {
            LotInspector x = new LotInspector();
            x.machine(0, 50, 2);
            x.raw(0, 0, 100);
            for (int u : new int[] {0, 48, 49, 50, 98, 99}) {
                due("period 50, unit " + u, x.unit(0, u, 1), u == 49 || u == 99 ? 4 : 0);
            }
            due("period 50, bad units", x.units(0, -1), 2);
            x.raw(1, 0, 9);
            due("period 0, bad units", x.units(1, -1), 0);
            x.machine(2, 1, 0);
            x.raw(2, 0, 9);
            due("period 1, bad units", x.units(2, -1), 9);
            x.machine(3, 4, 0);
            x.raw(3, 0, 3);
            x.raw(3, 0, 3);
            due("the count goes on from lot to lot", x.unit(3, 0, 1) * 10 + x.unit(4, 0, 1), 1);
            x.machine(3, 3, 1);
            x.raw(3, 0, 3);
            due("the count is 9", x.unit(5, 2, 1), 2);
            due("and only then", x.units(5, -1), 1);
        });
        test(22, "If the unit has a defect of this kind already, nothing is caused.", () -> {
            LotInspector x = office();
            int part = blindLot(x, 1, 2);
            x.machine(5, 1, 0);
            int lot = x.make(5, 3, 2, part, -1, -1);
            due("the defects", x.unit(lot, 1, 1), 1);
            due("its cause", x.trace(lot, 1, 0, true), 1);
            due("its origin", x.trace(lot, 1, 0, false), 1);
            due("worked(5) all the same", x.worked(5), 2);
        });
    }

    private static void setting() {
        test(2, "Sets a machine.", () -> {
            LotInspector x = new LotInspector();
            x.machine(4, 2, 3);
            x.raw(4, 0, 2);
            x.raw(3, 0, 2);
            due("units of the machine that is set", x.unit(0, 0, 1) * 100 + x.unit(0, 1, 1), 8);
            due("units of another machine", x.units(1, -1), 0);
            x.machine(4, 0, 3);
            x.raw(4, 0, 2);
            due("units after it was set again", x.units(2, -1), 0);
        });
        test(2, "Its count stays.", () -> {
            LotInspector x = new LotInspector();
            x.raw(0, 0, 7);
            x.machine(0, 4, 1);
            due("worked(0)", x.worked(0), 7);
            x.raw(0, 0, 5);
            due("the eighth", x.unit(1, 0, 1), 2);
            due("the twelfth", x.unit(1, 4, 1), 2);
            due("no others", x.units(1, -1), 2);
        });
        test(2, "`machine`: the machine, 0 to 5", () -> {
            for (int m = 0; m < 6; m++) {
                LotInspector x = new LotInspector();
                x.machine(m, 3, 1);
                for (int other = 0; other < 6; other++) {
                    due("machine(" + other + ", 0, 0)", x.machine(other, 0, 0), other == m ? 31 : 0);
                }
            }
        });
        test(2, "`period`: the period, 0 to 50", () -> {
            LotInspector x = new LotInspector();
            for (int period = 0; period <= 50; period++) {
                x.machine(1, period, 0);
                due("after the period " + period, x.machine(1, 0, 0), 10 * period);
            }
        });
        test(2, "`kind`: the kind of defects, 0 to 3", () -> {
            LotInspector x = new LotInspector();
            for (int kind = 0; kind <= 3; kind++) {
                x.machine(1, 0, kind);
                due("after the kind " + kind, x.machine(1, 0, 0), kind);
            }
        });
        test(2, "Returns 10 times the previous period plus the previous kind.", () -> {
            LotInspector x = new LotInspector();
            due("first", x.machine(0, 3, 2), 0);
            due("second", x.machine(0, 50, 3), 32);
            due("third", x.machine(0, 0, 1), 503);
            due("a kind without a period", x.machine(0, 0, 0), 1);
            due("another machine", x.machine(5, 1, 0), 0);
        });
        test(2, "Throws `IndexOutOfBoundsException` if there is no such machine", () -> {
            for (int m : beside(0, 5)) {
                refused("machine(" + m + ", 1, 1)", PLACE, Offices::busy, x -> x.machine(m, 1, 1));
                refused("machine(" + m + ", 51, 4), the place first", PLACE, Offices::busy, x -> x.machine(m, 51, 4));
            }
        });
        test(2, "Throws `IllegalArgumentException` if period or kind is out of range", () -> {
            for (int n : beside(0, 50)) {
                refused("machine(0, " + n + ", 3)", NUMBER, Offices::busy, x -> x.machine(0, n, 3));
            }
            for (int n : beside(0, 3)) {
                refused("machine(0, 50, " + n + ")", NUMBER, Offices::busy, x -> x.machine(0, 50, n));
            }
        });
    }

    private static void worked() {
        test(3, "Returns the count of a machine.", () -> {
            LotInspector x = office();
            x.machine(2, 0, 0);
            x.raw(2, 0, 4);
            due("worked(2)", x.worked(2), 4);
            due("worked(2) again", x.worked(2), 4);
        });
        test(3, "`machine`: the machine", () -> {
            LotInspector x = new LotInspector();
            x.raw(5, 0, 4);
            due("worked(5)", x.worked(5), 4);
            due("worked(4)", x.worked(4), 0);
        });
        test(3, "Returns the number of units on which it has worked.", () -> {
            LotInspector x = office();
            blindLot(x, 2, 200);
            due("raw", x.worked(2), 200);
            x.make(3, 0, 5, 0, -1, -1);
            due("assembled", x.worked(3), 5);
            due("not once more on the parts", x.worked(2), 200);
        });
        test(3, "Throws `IndexOutOfBoundsException` if there is no such machine", () -> {
            for (int m : beside(0, 5)) {
                refused("worked(" + m + ")", PLACE, Offices::busy, x -> x.worked(m));
            }
        });
    }
}

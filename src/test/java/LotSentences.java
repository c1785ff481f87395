/** Lots, and the promises 10, 11, 16, 17 and 18. */
final class LotSentences extends Offices {
    static void all() {
        lots();
        inPlaceOfOthers();
        assembled();
        raw();
        make();
        makeRefused();
        lot();
        units();
        unit();
    }

    private static void lots() {
        test(10, "Lots. There are at most 24 lots, numbered from 0 in the order in which they were made.", () -> {
            LotInspector x = office();
            for (int i = 0; i < 23; i++) {
                due("raw(0, 3, 1)", i == 0 ? blindLot(x, 0, 5) : x.raw(0, 3, 1), i);
            }
            due("make of the 24th", x.make(0, 0, 1, 0, -1, -1), 23);
            due("count(0)", x.count(0), 24);
            due("the last one", x.lot(23, 0), 0);
            refused("raw of a 25th", STATE, Offices::full, y -> y.raw(0, 0, 1));
            refused("make of a 25th", STATE, Offices::full, y -> y.make(0, 0, 1, 0, -1, -1));
        });
        test(16, "A lot has a product, 1 to 200 units, numbered from 0, and a status: 0 waiting, 1 accepted, 2 rejected, "
                + "3 shipped;", () -> {
            LotInspector x = office();
            x.raw(0, 2, 1);
            x.raw(1, 3, 200);
            due("products", x.lot(0, 0) * 10 + x.lot(1, 0), 23);
            due("units", x.lot(0, 1) * 1000 + x.lot(1, 1), 1200);
            due("the last unit", x.unit(1, 199, 0), 0);
            due("waiting", x.lot(0, 2), 0);
            x.inspect(0);
            due("accepted", x.lot(0, 2), 1);
            x.inspect(1);
            due("rejected", x.lot(1, 2), 2);
            x.ship(0);
            due("shipped", x.lot(0, 2), 3);
        });
        test(16, "a new lot is waiting.", () -> {
            LotInspector x = office();
            x.raw(1, 0, 1);
            due("raw", x.lot(0, 2), 0);
            int part = blindLot(x, 1, 3);
            due("assembled", x.lot(x.make(0, 0, 1, part, -1, -1), 2), 0);
        });
        test(18, "A unit has a set of defects, a number of repairs, 0 to 2, and a state: 0 here, 1 set aside, 2 scrapped, "
                + "3 used, 4 shipped.", () -> {
            LotInspector x = busy();
            due("here", x.unit(0, 2, 0), 0);
            due("set aside", x.units(3, 1), 2);
            due("scrapped", x.unit(7, 0, 0), 2);
            due("used", x.unit(0, 1, 0), 3);
            due("shipped", x.unit(4, 1, 0), 4);
            due("defects of an assembled unit", x.unit(2, 0, 1), 9);
            due("repaired once", x.unit(6, 0, 2), 1);
        });
        test(10, "The units of a raw lot are made one after the other in ascending order; each of them is here, without "
                + "defects, and then a machine works on it.", () -> {
            LotInspector x = new LotInspector();
            x.machine(3, 3, 2);
            x.raw(3, 0, 7);
            for (int u = 0; u < 7; u++) {
                due("the state of " + u, x.unit(0, u, 0), 0);
                due("the defects of " + u, x.unit(0, u, 1), u == 2 || u == 5 ? 4 : 0);
                due("the repairs of " + u, x.unit(0, u, 2), 0);
            }
            due("worked(3)", x.worked(3), 7);
        });
    }

    /** Lot 0 is restored away after it had lost units to all states, and so is lot 1, which was assembled. */
    private static LotInspector restoredAway() {
        LotInspector x = office();
        x.save();
        x.product(0, 0, 15, 1);
        x.raw(1, 0, 9);
        x.inspect(0);
        x.sort(0);
        x.product(0, 0, 0, 0);
        x.inspect(0);
        x.make(4, 2, 3, 0, -1, -1);
        x.inspect(1);
        x.ship(0);
        x.complain(0, 6);
        due("the lots are gone", x.restore(), 0);
        return x;
    }

    private static void inPlaceOfOthers() {
        test(10, "each of them is here, without defects, and then a machine works on it.", () -> {
            LotInspector x = restoredAway();
            x.raw(4, 3, 9);
            whats(x, 0, 3, 9, 0, 0, -1, -1, -1, -1, 0, 4);
            for (int u = 0; u < 9; u++) {
                due("the state of " + u, x.unit(0, u, 0), 0);
                due("the defects of " + u, x.unit(0, u, 1), 8);
                due("the repairs of " + u, x.unit(0, u, 2), 0);
                due("the cause in " + u, x.trace(0, u, 3, true), 4);
                due("the whereabouts of " + u, x.whereabouts(0, u), u);
            }
            x.product(3, 0, 0, 0);
            x.inspect(0);
            x.ship(0);
            due("not complained of yet", x.complain(0, 6), 1);
        });
        test(11, "The new unit is here and has the defects of all these units,", () -> {
            LotInspector x = restoredAway();
            blindLot(x, 2, 3);
            due("in place of an assembled one", x.make(0, 1, 2, 0, -1, -1), 1);
            whats(x, 1, 1, 2, 0, 0, -1, -1, -1, -1, 1, 0);
            due("the defects", x.unit(1, 0, 1), 2);
            LotInspector y = restoredAway();
            y.raw(0, 0, 3);
            y.raw(0, 0, 3);
            due("a raw one in place of an assembled one", y.lot(1, 8), 0);
            due("its unit is made of nothing", thrownBy(y, z -> z.madeOf(1, 0, 0)), NOTHING.getName());
        });
    }

    private static void assembled() {
        test(11, "An assembled lot has 1 to 3 parts, which are different lots that are accepted.", () -> {
            LotInspector x = office();
            int a = blindLot(x, 1, 5);
            int b = blindLot(x, 2, 5);
            int c = blindLot(x, 3, 5);
            due("one part", x.lot(x.make(0, 0, 1, b, -1, -1), 8), 1);
            due("two parts", x.lot(x.make(0, 0, 1, b, a, -1), 8), 2);
            due("three parts", x.lot(x.make(0, 0, 1, b, c, a), 8), 3);
            due("of all three", x.unit(5, 0, 1), 7);
        });
        test(11, "Unit i of it is made of one unit of each part: the one at position i, from 0, among the units that were "
                + "here in this part, in ascending order; these units are used then.", () -> {
            LotInspector x = setAside();
            int other = blindLot(x, 2, 6);
            int lot = x.make(0, 0, 6, 0, other, -1);
            int[] used = {0, 1, 2, 3, 4, 6};
            for (int i = 0; i < 6; i++) {
                due("madeOf(" + lot + ", " + i + ", 0)", x.madeOf(lot, i, 0), used[i]);
                due("madeOf(" + lot + ", " + i + ", 1)", x.madeOf(lot, i, 1), other * 1000 + i);
                due("the state of 0/" + used[i], x.unit(0, used[i], 0), 3);
            }
            due("the one set aside stays so", x.unit(0, 5, 0), 1);
            due("the next one is here", x.unit(0, 7, 0), 0);
            int next = x.make(0, 0, 2, 0, -1, -1);
            due("the next lot goes on with it", x.madeOf(next, 0, 0), 7);
            due("and the one behind it", x.madeOf(next, 1, 0), 8);
        });
        test(11, "The new unit is here and has the defects of all these units, and then a machine works on it.", () -> {
            LotInspector x = office();
            int a = blindLot(x, 1, 3);
            int b = blindLot(x, 2, 3);
            int c = blindLot(x, 3, 3);
            x.machine(5, 2, 3);
            int lot = x.make(5, 0, 3, a, b, c);
            for (int u = 0; u < 3; u++) {
                due("the state of " + u, x.unit(lot, u, 0), 0);
                due("the defects of " + u, x.unit(lot, u, 1), u == 1 ? 15 : 7);
                due("the repairs of " + u, x.unit(lot, u, 2), 0);
            }
            due("a part keeps its own only", x.unit(a, 1, 1), 1);
        });
        test(11, "The units are made in ascending order.", () -> {
            LotInspector x = office();
            int a = blindLot(x, 0, 9);
            x.machine(5, 4, 0);
            int lot = x.make(5, 0, 9, a, -1, -1);
            for (int u = 0; u < 9; u++) {
                due("the defects of " + u, x.unit(lot, u, 1), u == 3 || u == 7 ? 1 : 0);
            }
        });
    }

    /** Of the 16 units of lot 0, the bad one 5 is set aside, but one is allowed; 11 is bad as well. */
    private static LotInspector setAside() {
        LotInspector x = office();
        x.product(0, 30, 15, 3);
        x.machine(5, 6, 0);
        // From the seed 1 come 16838, 5758, 10113, 17515 and 31051: of 16 units these are 6, 14, 5, 4 and 10.
        x.inspect(x.raw(5, 0, 16));
        due("one is set aside", x.units(0, 1) * 10 + x.unit(0, 5, 0), 11);
        due("and the lot accepted", x.lot(0, 2), 1);
        return x;
    }

    private static void raw() {
        test(10, "Makes a raw lot.", () -> {
            LotInspector x = office();
            x.raw(3, 1, 2);
            int[] due = {1, 2, 0, 0, -1, -1, -1, -1, 0, 3};
            for (int what = 0; what < 10; what++) {
                due("lot(0, " + what + ")", x.lot(0, what), due[what]);
            }
        });
        test(10, "`machine`: the machine that works on its units", () -> {
            LotInspector x = office();
            for (int m = 0; m < 6; m++) {
                due("lot(" + m + ", 9)", x.lot(x.raw(m, 0, m + 1), 9), m);
            }
            for (int m = 0; m < 6; m++) {
                due("worked(" + m + ")", x.worked(m), m + 1);
            }
        });
        test(10, "`product`: the product", () -> {
            LotInspector x = office();
            for (int p = 0; p < 4; p++) {
                due("lot(" + p + ", 0)", x.lot(x.raw(0, p, 1), 0), p);
            }
        });
        test(10, "`size`: the number of units, 1 to 200", () -> {
            LotInspector x = office();
            due("1", x.lot(x.raw(0, 0, 1), 1), 1);
            due("200", x.lot(x.raw(1, 0, 200), 1), 200);
            due("of which all are made", x.units(1, -1), 200);
        });
        test(10, "Returns the number of the lot.", () -> {
            LotInspector x = office();
            for (int i = 0; i < 24; i++) {
                due("the lot " + i, x.raw(0, 0, 1), i);
            }
        });
        test(10, "Throws `IndexOutOfBoundsException` if there is no such machine or product", () -> {
            for (int n : beside(0, 5)) {
                refused("raw(" + n + ", 0, 1)", PLACE, Offices::busy, x -> x.raw(n, 0, 1));
                refused("raw(" + n + ", 0, 0), the place first", PLACE, Offices::full, x -> x.raw(n, 0, 0));
            }
            for (int n : beside(0, 3)) {
                refused("raw(0, " + n + ", 1)", PLACE, Offices::busy, x -> x.raw(0, n, 1));
                refused("raw(0, " + n + ", 0), the place first", PLACE, Offices::full, x -> x.raw(0, n, 0));
            }
        });
        test(10, "Throws `IllegalArgumentException` if size is out of range", () -> {
            for (int n : beside(1, 200)) {
                refused("raw(0, 0, " + n + ")", NUMBER, Offices::busy, x -> x.raw(0, 0, n));
                refused("raw(0, 0, " + n + ") with 24 lots, the number first", NUMBER, Offices::full,
                        x -> x.raw(0, 0, n));
            }
        });
        test(10, "Throws `IllegalStateException` if there are 24 lots", () -> {
            refused("raw(0, 0, 1)", STATE, Offices::full, x -> x.raw(0, 0, 1));
            refused("raw(5, 3, 200)", STATE, Offices::full, x -> x.raw(5, 3, 200));
            LotInspector x = full();
            x.undo();
            due("raw(0, 0, 1) after one was undone", x.raw(0, 0, 1), 23);
        });
    }

    private static void make() {
        test(11, "Makes an assembled lot.", () -> {
            LotInspector x = office();
            int a = blindLot(x, 1, 3);
            int b = blindLot(x, 2, 3);
            int lot = x.make(3, 1, 2, a, b, -1);
            int[] due = {1, 2, 0, 0, -1, -1, -1, -1, 2, 3};
            for (int what = 0; what < 10; what++) {
                due("lot(" + lot + ", " + what + ")", x.lot(lot, what), due[what]);
            }
        });
        test(11, "`machine`: the machine that works on its units", () -> {
            LotInspector x = office();
            blindLot(x, 0, 9);
            for (int m = 0; m < 6; m++) {
                due("lot(" + (m + 1) + ", 9)", x.lot(x.make(m, 0, 1, 0, -1, -1), 9), m);
            }
            due("worked(5)", x.worked(5), 1);
        });
        test(11, "`product`: the product", () -> {
            LotInspector x = office();
            blindLot(x, 0, 9);
            for (int p = 0; p < 4; p++) {
                due("lot(" + (p + 1) + ", 0)", x.lot(x.make(0, p, 1, 0, -1, -1), 0), p);
            }
        });
        test(11, "`size`: the number of units, 1 to 200", () -> {
            LotInspector x = office();
            blindLot(x, 0, 200);
            int all = x.make(1, 0, 200, 0, -1, -1);
            due("200", x.lot(all, 1), 200);
            due("of which all are made", x.units(all, -1), 200);
            due("and all are used", x.units(0, 3), 200);
            x.undo();
            due("1", x.lot(x.make(1, 0, 1, 0, -1, -1), 1), 1);
        });
        test(11, "`first`: the first part", () -> {
            LotInspector x = office();
            blindLot(x, 1, 3);
            blindLot(x, 2, 3);
            due("the part 1", x.madeOf(x.make(0, 0, 1, 1, -1, -1), 0, 0), 1000);
            due("the part 0", x.madeOf(x.make(0, 0, 1, 0, -1, -1), 0, 0), 0);
        });
        test(11, "`second`: the second part, or -1 for none", () -> {
            LotInspector x = office();
            blindLot(x, 1, 3);
            blindLot(x, 2, 3);
            due("the part 0", x.madeOf(x.make(0, 0, 1, 1, 0, -1), 0, 1), 0);
            due("none", x.lot(x.make(0, 0, 1, 1, -1, -1), 8), 1);
        });
        test(11, "`third`: the third part, or -1 for none", () -> {
            LotInspector x = office();
            blindLot(x, 1, 3);
            blindLot(x, 2, 3);
            blindLot(x, 3, 3);
            due("the part 0", x.madeOf(x.make(0, 0, 1, 1, 2, 0), 0, 2), 0);
            due("none", x.lot(x.make(0, 0, 1, 1, 2, -1), 8), 2);
        });
        test(11, "Returns the number of the lot.", () -> {
            LotInspector x = office();
            blindLot(x, 0, 200);
            for (int i = 1; i < 24; i++) {
                due("the lot " + i, x.make(0, 0, 1, 0, -1, -1), i);
            }
        });
    }

    /** Lots 0, 1 and 2 are accepted with 3, 4 and 5 units here; 3 waits, 4 is rejected, 5 is shipped. */
    private static LotInspector parts() {
        LotInspector x = office();
        blindLot(x, 1, 3);
        blindLot(x, 2, 4);
        blindLot(x, 3, 5);
        x.raw(0, 3, 2);
        inspectedLot(x, 1, 0, 2);
        x.ship(blindLot(x, 0, 2));
        return x;
    }

    private static LotInspector fullOfParts() {
        LotInspector x = parts();
        for (int lot = 6; lot < 24; lot++) {
            x.raw(0, 1, 1);
        }
        return x;
    }

    private static void makeRefused() {
        test(11, "Throws `IndexOutOfBoundsException` if there is no such machine, product or part", () -> {
            for (int n : beside(0, 5)) {
                refused("make(" + n + ", 0, 1, 0, 1, 2)", PLACE, LotSentences::parts, x -> x.make(n, 0, 1, 0, 1, 2));
                refused("make(0, 0, 1, " + n + ", 1, 2)", PLACE, LotSentences::parts, x -> x.make(0, 0, 1, n, 1, 2));
                refused("make(" + n + ", 0, 0, 0, 0, -1), the place first", PLACE, LotSentences::fullOfParts,
                        x -> x.make(n, 0, 0, 0, 0, -1));
            }
            for (int n : beside(0, 3)) {
                refused("make(0, " + n + ", 1, 0, 1, 2)", PLACE, LotSentences::parts, x -> x.make(0, n, 1, 0, 1, 2));
            }
            for (int n : beside(-1, 5)) {
                refused("make(0, 0, 1, 0, " + n + ", 2)", PLACE, LotSentences::parts, x -> x.make(0, 0, 1, 0, n, 2));
                refused("make(0, 0, 1, 0, 1, " + n + ")", PLACE, LotSentences::parts, x -> x.make(0, 0, 1, 0, 1, n));
                refused("make(0, 0, 1, 0, -1, " + n + "), the place first", PLACE, LotSentences::parts,
                        x -> x.make(0, 0, 1, 0, -1, n));
            }
        });
        test(11, "Throws `IllegalArgumentException` if size is out of range, two parts are the same, or there is a third "
                + "part but no second one", () -> {
            for (int n : beside(1, 200)) {
                refused("make(0, 0, " + n + ", 0, 1, 2)", NUMBER, LotSentences::parts, x -> x.make(0, 0, n, 0, 1, 2));
                refused("make(0, 0, " + n + ", 3, -1, -1), the number first", NUMBER, LotSentences::fullOfParts,
                        x -> x.make(0, 0, n, 3, -1, -1));
            }
            refused("make(0, 0, 1, 0, 0, -1)", NUMBER, LotSentences::parts, x -> x.make(0, 0, 1, 0, 0, -1));
            refused("make(0, 0, 1, 0, 0, 1)", NUMBER, LotSentences::parts, x -> x.make(0, 0, 1, 0, 0, 1));
            refused("make(0, 0, 1, 0, 1, 0)", NUMBER, LotSentences::parts, x -> x.make(0, 0, 1, 0, 1, 0));
            refused("make(0, 0, 1, 0, 1, 1)", NUMBER, LotSentences::parts, x -> x.make(0, 0, 1, 0, 1, 1));
            refused("make(0, 0, 1, 0, -1, 1)", NUMBER, LotSentences::parts, x -> x.make(0, 0, 1, 0, -1, 1));
            refused("make(0, 0, 1, 0, -1, 0)", NUMBER, LotSentences::parts, x -> x.make(0, 0, 1, 0, -1, 0));
            refused("make(0, 0, 1, 3, 3, -1), the number first", NUMBER, LotSentences::fullOfParts,
                    x -> x.make(0, 0, 1, 3, 3, -1));
            refused("make(0, 0, 1, 3, -1, 1), the number first", NUMBER, LotSentences::fullOfParts,
                    x -> x.make(0, 0, 1, 3, -1, 1));
        });
        test(11, "Throws `IllegalStateException` if there are 24 lots, a part is not accepted, or fewer than size units "
                + "are here in a part", () -> {
            refused("make with 24 lots", STATE, LotSentences::fullOfParts, x -> x.make(0, 0, 1, 0, 1, 2));
            refused("a waiting part", STATE, LotSentences::parts, x -> x.make(0, 0, 1, 3, -1, -1));
            refused("a rejected part", STATE, LotSentences::parts, x -> x.make(0, 0, 1, 4, -1, -1));
            refused("a shipped part", STATE, LotSentences::parts, x -> x.make(0, 0, 1, 5, -1, -1));
            refused("a waiting second part", STATE, LotSentences::parts, x -> x.make(0, 0, 1, 0, 3, 1));
            refused("a rejected third part", STATE, LotSentences::parts, x -> x.make(0, 0, 1, 0, 1, 4));
            refused("4 of 3 in the first part", STATE, LotSentences::parts, x -> x.make(0, 0, 4, 0, 1, 2));
            refused("4 of 3 in the second part", STATE, LotSentences::parts, x -> x.make(0, 0, 4, 1, 0, 2));
            refused("4 of 3 in the third part", STATE, LotSentences::parts, x -> x.make(0, 0, 4, 1, 2, 0));
            due("3 of 3, 4 and 5", parts().make(0, 0, 3, 0, 1, 2), 6);
            refused("units that are used are not here", STATE, LotSentences::usedUp, x -> x.make(0, 0, 1, 0, -1, -1));
            refused("units set aside are not here", STATE, LotSentences::setAside,
                    x -> x.make(0, 0, 16, 0, -1, -1));
            due("the others are", setAside().make(0, 0, 15, 0, -1, -1), 1);
        });
    }

    private static LotInspector usedUp() {
        LotInspector x = parts();
        x.make(0, 0, 3, 0, 1, 2);
        return x;
    }

    private static void lot() {
        test(16, "Returns a number of a lot.", () -> {
            LotInspector x = busy();
            due("lot(3, 7)", x.lot(3, 7), 2);
            due("lot(3, 7) again", x.lot(3, 7), 2);
        });
        test(16, "`lot`: the lot", () -> {
            LotInspector x = office();
            for (int i = 0; i < 24; i++) {
                x.raw(0, 0, i + 1);
            }
            for (int i = 0; i < 24; i++) {
                due("lot(" + i + ", 1)", x.lot(i, 1), i + 1);
            }
        });
        test(16, "`what`: 0 the product; 1 the number of units; 2 the status; 3 the number of inspections; 4 to 7 the "
                + "severity, the size of the sample, the number allowed and the number found of the latest inspection, "
                + "-1 if there was none; 8 the number of parts; 9 the machine", () -> {
            LotInspector x = office();
            x.product(2, 30, 1, 1);
            x.raw(1, 2, 60);
            whats(x, 0, 2, 60, 0, 0, -1, -1, -1, -1, 0, 1);
            x.inspect(0);
            whats(x, 0, 2, 60, 2, 1, 0, 13, 3, 13, 0, 1);
            x.product(2, 30, 0, 1);
            x.sort(0);
            whats(x, 0, 2, 60, 0, 1, 0, 13, 3, 13, 0, 1);
            x.inspect(0);
            whats(x, 0, 2, 60, 1, 2, 1, 13, 2, 0, 0, 1);
            x.make(4, 3, 7, 0, -1, -1);
            whats(x, 0, 2, 60, 1, 2, 1, 13, 2, 0, 0, 1);
            whats(x, 1, 3, 7, 0, 0, -1, -1, -1, -1, 1, 4);
            x.ship(0);
            whats(x, 0, 2, 60, 3, 2, 1, 13, 2, 0, 0, 1);
        });
        test(16, "Returns the number.", () -> {
            LotInspector x = after("aaaaaa");
            whats(x, 5, 0, 9, 1, 1, 2, 2, 1, 0, 0, 0);
        });
        test(16, "Throws `IndexOutOfBoundsException` if there is no such lot", () -> {
            for (int n : beside(0, 7)) {
                refused("lot(" + n + ", 0)", PLACE, Offices::busy, x -> x.lot(n, 0));
                refused("lot(" + n + ", 10), the place first", PLACE, Offices::busy, x -> x.lot(n, 10));
            }
            refused("lot(24, 0) of 24", PLACE, Offices::full, x -> x.lot(24, 0));
            refused("a lot that was undone", PLACE, LotSentences::undone, x -> x.lot(1, 0));
        });
        test(16, "Throws `IllegalArgumentException` if what is not 0 to 9", () -> {
            for (int n : beside(0, 9)) {
                refused("lot(7, " + n + ")", NUMBER, Offices::busy, x -> x.lot(7, n));
            }
        });
    }

    private static LotInspector undone() {
        LotInspector x = office();
        x.raw(0, 0, 2);
        x.raw(0, 0, 2);
        x.undo();
        return x;
    }

    private static void whats(LotInspector x, int lot, int... due) {
        for (int what = 0; what < 10; what++) {
            due("lot(" + lot + ", " + what + ")", x.lot(lot, what), due[what]);
        }
    }

    private static void units() {
        test(17, "Returns how many units of a lot are in a state.", () -> {
            LotInspector x = busy();
            int[][] due = {{1, 0, 0, 2, 0}, {1, 0, 0, 2, 0}, {2, 0, 0, 0, 0}, {1, 2, 0, 0, 0}, {0, 0, 0, 0, 2},
                {0, 0, 0, 0, 2}, {3, 0, 0, 0, 0}, {0, 0, 2, 0, 0}};
            for (int lot = 0; lot < due.length; lot++) {
                for (int state = 0; state < 5; state++) {
                    due("units(" + lot + ", " + state + ")", x.units(lot, state), due[lot][state]);
                }
            }
        });
        test(17, "`lot`: the lot", () -> {
            LotInspector x = office();
            x.raw(0, 0, 3);
            x.raw(0, 0, 200);
            due("units(0, 0)", x.units(0, 0), 3);
            due("units(1, 0)", x.units(1, 0), 200);
        });
        test(17, "`state`: the state, 0 to 4, or -1 for bad units that are here", () -> {
            LotInspector x = office();
            x.product(0, 0, 1, 0);
            x.raw(1, 0, 20);
            due("all are bad", x.units(0, -1), 20);
            x.inspect(0);
            due("set aside", x.units(0, 1), 5);
            due("bad and not here", x.units(0, -1), 15);
            x.product(0, 0, 2, 0);
            due("here and not bad", x.units(0, -1), 0);
            x.product(0, 0, 1, 0);
            x.sort(0);
            due("scrapped", x.units(0, 2), 20);
            due("none is here", x.units(0, -1) + x.units(0, 0), 0);
        });
        test(17, "Returns the number of units.", () -> {
            LotInspector x = office();
            x.machine(5, 3, 0);
            x.raw(5, 0, 10);
            due("units(0, -1)", x.units(0, -1), 3);
            due("units(0, 0)", x.units(0, 0), 10);
            due("nothing changes", x.count(4), 6);
        });
        test(17, "Throws `IndexOutOfBoundsException` if there is no such lot", () -> {
            for (int n : beside(0, 7)) {
                refused("units(" + n + ", 0)", PLACE, Offices::busy, x -> x.units(n, 0));
                refused("units(" + n + ", 5), the place first", PLACE, Offices::busy, x -> x.units(n, 5));
            }
        });
        test(17, "Throws `IllegalArgumentException` if state is not -1 to 4", () -> {
            for (int n : beside(-1, 4)) {
                refused("units(7, " + n + ")", NUMBER, Offices::busy, x -> x.units(7, n));
            }
        });
    }

    private static void unit() {
        test(18, "Returns a number of a unit.", () -> {
            LotInspector x = busy();
            due("unit(6, 2, 2)", x.unit(6, 2, 2), 1);
            due("unit(6, 2, 2) again", x.unit(6, 2, 2), 1);
        });
        test(18, "`lot`: the lot", () -> {
            LotInspector x = office();
            x.raw(1, 0, 1);
            x.raw(2, 0, 1);
            due("unit(0, 0, 1)", x.unit(0, 0, 1), 1);
            due("unit(1, 0, 1)", x.unit(1, 0, 1), 2);
        });
        test(18, "`unit`: the unit", () -> {
            LotInspector x = office();
            x.machine(5, 50, 1);
            x.raw(5, 0, 200);
            for (int u : new int[] {0, 48, 49, 50, 198, 199}) {
                due("unit(0, " + u + ", 1)", x.unit(0, u, 1), u % 50 == 49 ? 2 : 0);
            }
        });
        test(18, "`what`: 0 the state; 1 the set of its defects; 2 the number of its repairs; 3: 1 if it is bad, otherwise "
                + "0", () -> {
            LotInspector x = office();
            x.product(0, 0, 15, 1);
            x.raw(1, 0, 8);
            numbers(x, 6, 0, 1, 0, 1);
            // Of eight, 6 and 4 are drawn; the seventh repair is that of the unit 6.
            x.inspect(0);
            numbers(x, 6, 1, 1, 0, 1);
            numbers(x, 5, 0, 1, 0, 1);
            x.sort(0);
            numbers(x, 6, 0, 8, 1, 1);
            numbers(x, 5, 0, 0, 1, 0);
            x.product(0, 0, 7, 1);
            numbers(x, 6, 0, 8, 1, 0);
        });
        test(18, "Returns the number.", () -> {
            LotInspector x = family();
            due("the defects of 4/1", x.unit(4, 1, 1), 15);
            due("the state of 3/5", x.unit(3, 5, 0), 0);
            due("the state of 3/3", x.unit(3, 3, 0), 3);
        });
        test(18, "Throws `IndexOutOfBoundsException` if there is no such lot or unit", () -> {
            for (int n : beside(0, 7)) {
                refused("unit(" + n + ", 0, 0)", PLACE, Offices::busy, x -> x.unit(n, 0, 0));
                refused("unit(" + n + ", 0, 4), the place first", PLACE, Offices::busy, x -> x.unit(n, 0, 4));
            }
            for (int n : beside(0, 2)) {
                refused("unit(6, " + n + ", 0)", PLACE, Offices::busy, x -> x.unit(6, n, 0));
                refused("unit(6, " + n + ", 4), the place first", PLACE, Offices::busy, x -> x.unit(6, n, 4));
            }
            for (int n : beside(0, 199)) {
                due("unit(0, " + n + ", 0) of 200", thrownBy(greatest(), x -> x.unit(0, n, 0)), PLACE.getName());
            }
        });
        test(18, "Throws `IllegalArgumentException` if what is not 0 to 3", () -> {
            for (int n : beside(0, 3)) {
                refused("unit(6, 2, " + n + ")", NUMBER, Offices::busy, x -> x.unit(6, 2, n));
            }
        });
    }

    private static LotInspector greatest() {
        LotInspector x = new LotInspector();
        x.raw(0, 0, 200);
        return x;
    }

    private static void numbers(LotInspector x, int unit, int... due) {
        for (int what = 0; what < 4; what++) {
            due("unit(0, " + unit + ", " + what + ")", x.unit(0, unit, what), due[what]);
        }
    }
}

/** Draws, inspecting, sorting and chance, and the promises 9, 12 to 15 and 19. */
final class InspectionSentences extends Offices {
    static void all() {
        draws();
        seed();
        inspecting();
        inspect();
        sorting();
        repairing();
        sort();
        ship();
        complain();
        chances();
        chance();
    }

    /** The seed after one draw that follows this seed. */
    private static int seedAfter(int seed) {
        LotInspector x = new LotInspector();
        x.raw(0, 0, 1);
        x.seed(seed);
        x.inspect(0);
        return x.count(6);
    }

    /** All the units of lot 0 are bad in the end, so that an inspection sets aside what it draws. */
    private static LotInspector allBad(int size) {
        LotInspector x = office();
        x.product(0, 0, 15, 1);
        x.raw(1, 0, size);
        return x;
    }

    private static void dueAside(LotInspector x, int lot, int... due) {
        due("the number of units set aside in the lot " + lot, x.units(lot, 1), due.length);
        for (int u : due) {
            due("the state of " + lot + "/" + u, x.unit(lot, u, 0), 1);
        }
    }

    private static void draws() {
        test(9, "Draws. There is a seed, 0 to 2147483647, at first 1.", () -> {
            LotInspector x = new LotInspector();
            due("count(6)", x.count(6), 1);
            x.seed(MAX);
            due("the greatest", x.count(6), MAX);
            x.seed(0);
            due("the least", x.count(6), 0);
        });
        test(9, "To draw one of n things, numbered from 0, the seed becomes the seed times 1103515245 plus 12345, modulo "
                + "2147483648;", () -> {
            due("after 0", seedAfter(0), 12345);
            due("after 1", seedAfter(1), 1103527590);
            // 2 * 1103515245 + 12345 = 2207042835, which is 59559187 above the modulus.
            due("after 2", seedAfter(2), 59559187);
            // -1103515245 + 12345 + 2147483648, as the seed is one below the modulus.
            due("after 2147483647", seedAfter(MAX), 1043980748);
            // Half the modulus times an odd number is half the modulus again.
            due("after 1073741824", seedAfter(1 << 30), (1 << 30) + 12345);
        });
        test(12, "then the thing with the number seed / 65536, rounded down, modulo n is drawn.", () -> {
            // From the seed 1 come 16838, 5758, 10113, 17515 and 31051: modulo 20, 19, 18, 17 and 16, these are 18, 1,
            // 15, 5 and 11.
            LotInspector x = allBad(20);
            x.inspect(0);
            dueAside(x, 0, 18, 1, 16, 6, 13);
            due("the seed after five draws, / 65536", x.count(6) / 65536, 31051);
            LotInspector y = allBad(3);
            // 0 * 1103515245 + 12345 is less than 65536: 0 is drawn; then 1406932606 / 65536 = 21468 is 0 of two.
            y.seed(0);
            y.inspect(0);
            dueAside(y, 0, 0, 1);
        });
    }

    private static void seed() {
        test(9, "Sets the seed.", () -> {
            LotInspector x = allBad(20);
            x.seed(5);
            x.inspect(0);
            x.undo();
            x.seed(1);
            x.inspect(0);
            dueAside(x, 0, 18, 1, 16, 6, 13);
        });
        test(9, "`seed`: the seed, not negative", () -> {
            LotInspector x = new LotInspector();
            for (int seed : new int[] {0, 1, 65535, 65536, MAX - 1, MAX}) {
                x.seed(seed);
                due("count(6)", x.count(6), seed);
            }
        });
        test(9, "Returns the previous seed.", () -> {
            LotInspector x = new LotInspector();
            due("first", x.seed(0), 1);
            due("second", x.seed(MAX), 0);
            due("third", x.seed(1), MAX);
            x.raw(0, 0, 1);
            x.inspect(0);
            due("after a draw", x.seed(1), 1103527590);
        });
        test(9, "Throws `IllegalArgumentException` if seed is negative", () -> {
            for (int seed : new int[] {-1, MIN}) {
                refused("seed(" + seed + ")", NUMBER, Offices::busy, x -> x.seed(seed));
            }
        });
    }

    private static void inspecting() {
        test(12, "Inspecting. The first inspection of a lot has the severity of its product;", () -> {
            LotInspector normal = office();
            inspected(normal, 0);
            due("normal", normal.lot(0, 4), 0);
            due("tightened", after("rra").lot(2, 4), 1);
            due("reduced", after("aaaaaa").lot(5, 4), 2);
            due("reduced, the sample", after("aaaaaa").lot(5, 5), 2);
            due("reduced, the number allowed", after("aaaaaa").lot(5, 6), 1);
        });
        test(12, "every later one is tightened.", () -> {
            LotInspector x = after("raaaaa");
            due("the product is reduced", x.policy(0, 3), 2);
            x.product(0, 30, 15, 15);
            x.sort(0);
            x.inspect(0);
            due("the severity of a second inspection", x.lot(0, 4), 1);
            due("its sample", x.lot(0, 5), 3);
            due("its number allowed", x.lot(0, 6), 0);
            LotInspector y = allBad(50);
            y.product(0, 30, 15, 0);
            y.inspect(0);
            due("normal, the number allowed", y.lot(0, 6), 2);
            y.product(0, 30, 0, 0);
            y.sort(0);
            y.inspect(0);
            due("tightened, the number allowed", y.lot(0, 6), 1);
        });
        test(12, "A sample for the number of units of the lot that are here is drawn,", () -> {
            LotInspector x = scrapped();
            due("six of nine are here", x.units(4, 0), 6);
            x.inspect(4);
            due("the size for six", x.lot(4, 5), 2);
            LotInspector y = allBad(200);
            y.inspect(0);
            due("the size for 200", y.lot(0, 5), 32);
            due("all of them found", y.lot(0, 7), 32);
        });
        test(12, "one unit after the other, each from the units that are here and were not drawn yet for this sample, in "
                + "ascending order.", () -> {
            LotInspector x = scrapped();
            x.product(0, 0, 2, 0);
            x.seed(1);
            // 0, 1, 3, 4, 6 and 7 are here: 16838 is 2 modulo 6, and 5758 is 3 modulo 5.
            due("found", x.inspect(4), 2);
            dueAside(x, 4, 3, 6);
            LotInspector y = allBad(2);
            due("both of two", y.inspect(0), 2);
            dueAside(y, 0, 0, 1);
            LotInspector z = allBad(1);
            due("the only one", z.inspect(0), 1);
        });
        test(12, "The bad units of the sample are found and set aside.", () -> {
            LotInspector x = new LotInspector();
            x.product(0, 30, 15, 3);
            x.machine(0, 7, 0);
            x.raw(0, 0, 20);
            // Of 20 units, 18, 1, 16, 6 and 13 are drawn; 6 and 13 are bad.
            due("found", x.inspect(0), 2);
            dueAside(x, 0, 6, 13);
            due("the others are here", x.units(0, 0), 18);
            due("their defects stay", x.unit(0, 6, 1), 1);
            LotInspector y = new LotInspector();
            y.machine(0, 7, 0);
            y.product(0, 30, 14, 3);
            y.raw(0, 0, 20);
            due("nothing is bad", y.inspect(0) + y.units(0, 1), 0);
        });
        test(12, "If more units are found than the number allowed, the lot becomes rejected, otherwise accepted.", () -> {
            for (int period : new int[] {7, 14, 20}) {
                LotInspector x = new LotInspector();
                x.product(0, 20, 15, 3);
                x.machine(0, period, 0);
                x.raw(0, 0, 20);
                int found = x.inspect(0);
                due("period " + period + ", found", found, period == 7 ? 2 : period == 14 ? 1 : 0);
                due("allowed", x.lot(0, 6), 1);
                due("the status", x.lot(0, 2), found > 1 ? 2 : 1);
            }
        });
        test(12, "Switching follows after a first inspection only.", () -> {
            LotInspector x = office();
            x.product(0, 0, 15, 0);
            inspected(x, 1);
            due("after the first", x.policy(0, 5) * 10 + x.policy(0, 6), 11);
            x.product(0, 0, 8, 0);
            x.sort(0);
            x.inspect(0);
            due("after an accepted second", x.policy(0, 5) * 10 + x.policy(0, 6) + x.policy(0, 4), 11);
            LotInspector y = office();
            inspected(y, 1);
            y.product(0, 0, 8, 0);
            y.sort(0);
            y.product(0, 0, 15, 0);
            due("all nine are still bad", y.inspect(0), 3);
            due("the severity after a rejected second", y.policy(0, 3), 0);
            due("the memory after a rejected second", y.policy(0, 5) * 10 + y.policy(0, 6), 11);
        });
    }

    /** Lot 4 was sorted: of nine units with the defect 1, those with the defect 0, which are 2, 5 and 8, are scrapped. */
    private static LotInspector scrapped() {
        LotInspector x = office();
        x.raw(0, 1, 1);
        x.raw(0, 1, 1);
        x.raw(0, 1, 1);
        int part = blindLot(x, 2, 9);
        x.product(0, 0, 1, 0);
        x.machine(5, 3, 0);
        int lot = x.make(5, 0, 9, part, -1, -1);
        x.seed(1);
        // Of nine, 8, 6 and 5 are drawn.
        due("found", x.inspect(lot), 2);
        due("scrapped", x.sort(lot), 3);
        return x;
    }

    private static void inspect() {
        test(12, "Inspects a lot.", () -> {
            LotInspector x = allBad(26);
            x.inspect(0);
            due("the severity", x.lot(0, 4), 0);
            due("the sample", x.lot(0, 5), 8);
            due("the number allowed", x.lot(0, 6), 0);
            due("the number found", x.lot(0, 7), 8);
            due("the inspections", x.lot(0, 3), 1);
            due("the status", x.lot(0, 2), 2);
        });
        test(12, "`lot`: the lot", () -> {
            LotInspector x = office();
            x.raw(1, 0, 3);
            x.raw(1, 0, 3);
            x.inspect(1);
            due("the lot 0", x.lot(0, 3) * 10 + x.units(0, 1), 0);
            due("the lot 1", x.lot(1, 3) * 10 + x.units(1, 1), 12);
        });
        test(12, "Returns the number found.", () -> {
            due("none of nine", inspected(office(), 0), 0);
            due("all of one", allBad(1).inspect(0), 1);
            due("two of eight", allBad(8).inspect(0), 2);
            due("32 of 200", allBad(200).inspect(0), 32);
        });
        test(12, "Throws `IndexOutOfBoundsException` if there is no such lot", () -> {
            for (int n : beside(0, 7)) {
                refused("inspect(" + n + ")", PLACE, Offices::busy, x -> x.inspect(n));
            }
            refused("inspect(24) of 24", PLACE, Offices::full, x -> x.inspect(24));
        });
        test(12, "Throws `IllegalStateException` if it is not waiting, none of its units is here, or its product is "
                + "stopped", () -> {
            refused("an accepted lot", STATE, Offices::busy, x -> x.inspect(0));
            refused("a rejected lot", STATE, Offices::busy, x -> x.inspect(3));
            refused("a shipped lot", STATE, Offices::busy, x -> x.inspect(5));
            refused("a waiting lot with no unit here", STATE, Offices::busy, x -> x.inspect(7));
            refused("a new lot of a stopped product", STATE, InspectionSentences::stoppedLots, x -> x.inspect(7));
            refused("a sorted lot of a stopped product", STATE, InspectionSentences::stoppedLots, x -> x.inspect(2));
            due("a lot of another product", stoppedLots().inspect(8), 0);
        });
    }

    /** The product 0 is stopped; its lots 2 (sorted) and 7 (new) wait, and so does lot 8 of the product 1. */
    private static LotInspector stoppedLots() {
        LotInspector x = office();
        for (int i = 0; i < 7; i++) {
            inspectedLot(x, 1, 0, 3);
        }
        x.sort(2);
        x.raw(0, 0, 3);
        x.raw(0, 1, 3);
        return x;
    }

    private static void sorting() {
        test(13, "Sorting. When a lot is sorted, its units that are here or set aside are looked at in ascending order.",
                () -> {
            LotInspector x = allBad(8);
            x.inspect(0);
            dueAside(x, 0, 6, 4);
            x.sort(0);
            for (int u = 0; u < 8; u++) {
                due("the defects of " + u + ": the seventh repair is that of 6", x.unit(0, u, 1), u == 6 ? 8 : 0);
            }
        });
        test(13, "Those that are here and bad are found.", () -> {
            LotInspector x = office();
            x.product(0, 0, 15, 3);
            x.machine(5, 3, 0);
            x.raw(5, 0, 9);
            // Of nine, 8, 6 and 5 are drawn; 2, 5 and 8 are bad.
            due("set aside", x.inspect(0), 2);
            due("scrapped", x.sort(0), 0);
            for (int u = 0; u < 9; u++) {
                due("the repairs of " + u, x.unit(0, u, 2), u % 3 == 2 ? 1 : 0);
            }
            due("blamed once each", x.blame(5, 0), 3);
        });
        test(13, "Each unit that is found or was set aside is repaired, if all its defects of kinds that are inspected are "
                + "of kinds that can be repaired,", () -> {
            due("all its kinds can be repaired", sortedOnce(1 | 8, 1 | 8).unit(3, 0, 2), 1);
            due("one of its kinds can't be", sortedOnce(1 | 8, 1).unit(3, 0, 0), 2);
            due("the other one can't be", sortedOnce(1 | 8, 8).unit(3, 0, 0), 2);
            due("none can be", sortedOnce(1 | 8, 0).unit(3, 0, 0), 2);
            due("others than its own can be", sortedOnce(1 | 8, 4).unit(3, 0, 0), 2);
            due("what is not inspected does not matter", sortedOnce(1, 1).unit(3, 0, 2), 1);
        });
        test(13, "and it was repaired fewer than 2 times:", () -> {
            LotInspector x = sortedOnce(1, 1);
            x.product(0, 0, 2, 2);
            x.inspect(3);
            due("scrapped by the second sorting", x.sort(3), 0);
            due("repaired twice", x.unit(3, 0, 2), 2);
            x.product(0, 0, 8, 8);
            x.inspect(3);
            due("scrapped by the third sorting", x.sort(3), 3);
            due("still repaired twice", x.unit(3, 0, 2), 2);
            due("its state", x.unit(3, 0, 0), 2);
            due("its defects stay", x.unit(3, 0, 1), 8);
            due("the repairs of the office", x.count(2), 6);
        });
    }

    /** Lot 3 has three units with the defects 0, 1 and 3; it was rejected and sorted. */
    private static LotInspector sortedOnce(int inspected, int repairable) {
        LotInspector x = office();
        int a = blindLot(x, 1, 3);
        int b = blindLot(x, 2, 3);
        int c = blindLot(x, 4, 3);
        x.product(0, 0, inspected, repairable);
        int lot = x.make(0, 0, 3, a, b, c);
        due("found", x.inspect(lot), 2);
        x.sort(lot);
        return x;
    }

    private static void repairing() {
        test(13, "it loses all defects of kinds that can be repaired;", () -> {
            due("its own kind", sortedOnce(1, 1).unit(3, 0, 1), 2 | 8);
            due("also kinds that are not inspected", sortedOnce(1, 1 | 2).unit(3, 0, 1), 8);
            due("all kinds", sortedOnce(1, 15).unit(3, 0, 1), 0);
        });
        test(13, "the number of repairs of the unit and that of the office, which is 0 at first, increase by 1;", () -> {
            due("at first", new LotInspector().count(2), 0);
            LotInspector x = sortedOnce(1, 1);
            for (int u = 0; u < 3; u++) {
                due("the repairs of 3/" + u, x.unit(3, u, 2), 1);
            }
            due("the repairs of the office", x.count(2), 3);
            due("none when scrapped", sortedOnce(1, 0).count(2), 0);
            due("none of the unit either", sortedOnce(1, 0).unit(3, 0, 2), 0);
        });
        test(13, "the unit is here then;", () -> {
            LotInspector x = sortedOnce(1, 1);
            due("here", x.units(3, 0), 3);
            due("set aside", x.units(3, 1), 0);
        });
        test(13, "and if the number of repairs of the office is a multiple of 7 then, the repair causes a defect of the "
                + "kind 3 in the unit, unless it has one.", () -> {
            LotInspector x = allBad(15);
            x.inspect(0);
            x.sort(0);
            for (int u = 0; u < 15; u++) {
                due("the defects of " + u, x.unit(0, u, 1), u == 6 || u == 13 ? 8 : 0);
            }
            due("its cause", x.trace(0, 6, 3, true), 6);
            due("a defect that stays", sevenRepaired(1).unit(2, 6, 1), 2 | 8);
            due("all others lost", sevenRepaired(3).unit(2, 6, 1), 8);
            LotInspector y = office();
            y.product(0, 0, 8, 3);
            int lot = y.make(1, 0, 7, blindLot(y, 4, 7), -1, -1);
            y.inspect(lot);
            y.product(0, 0, 1, 3);
            y.sort(lot);
            due("one that has the defect", y.unit(lot, 6, 1), 8);
            due("keeps its cause", y.trace(lot, 6, 3, true), 4);
        });
        test(13, "and the seventh repair causes its defect behind the loss of others.", () -> {
            LotInspector x = office();
            x.product(0, 0, 8, 8);
            x.raw(4, 0, 8);
            x.inspect(0);
            x.sort(0);
            for (int u = 0; u < 8; u++) {
                due("the defects of " + u, x.unit(0, u, 1), u == 6 ? 8 : 0);
            }
            due("its cause is the repair", x.trace(0, 6, 3, true), 6);
        });
        test(13, "If the unit is not repaired, it is scrapped.", () -> {
            LotInspector x = allBad(9);
            x.product(0, 0, 15, 14);
            x.inspect(0);
            x.sort(0);
            due("scrapped", x.units(0, 2), 9);
            due("the defects stay", x.unit(0, 0, 1), 1);
        });
        test(13, "After that, the lot is waiting.", () -> {
            due("after repairs", sortedOnce(1, 1).lot(3, 2), 0);
            due("after scrapping all", sortedOnce(1, 0).lot(3, 2), 0);
            due("the number of inspections stays", sortedOnce(1, 1).lot(3, 3), 1);
        });
        test(13, "Units that were set aside are repaired or scrapped when their lot is sorted, also if they are not bad "
                + "any more.", () -> {
            LotInspector x = allBad(8);
            x.inspect(0);
            x.product(0, 0, 2, 2);
            due("scrapped", x.sort(0), 0);
            due("the two set aside are repaired", x.count(2), 2);
            due("unit 4 is one of them", x.unit(0, 4, 2), 1);
            due("unit 0 is none", x.unit(0, 0, 2), 0);
            due("it keeps what can't be repaired", x.unit(0, 4, 1), 1);
            LotInspector y = sortedOnce(1, 1);
            y.product(0, 0, 2, 2);
            y.inspect(3);
            y.sort(3);
            y.product(0, 0, 8, 8);
            y.inspect(3);
            y.product(0, 0, 0, 15);
            due("repaired twice already, not bad any more", y.sort(3), 2);
        });
    }

    /** Lot 2 has seven units with the defects 0 and 1, all of which were repaired once. */
    private static LotInspector sevenRepaired(int repairable) {
        LotInspector x = office();
        int a = blindLot(x, 1, 7);
        int b = blindLot(x, 2, 7);
        x.product(0, 0, 1, repairable);
        x.make(0, 0, 7, a, b, -1);
        x.inspect(2);
        x.sort(2);
        return x;
    }

    private static void sort() {
        test(13, "Sorts a lot.", () -> {
            LotInspector x = allBad(8);
            x.inspect(0);
            x.sort(0);
            due("none is set aside", x.units(0, 1), 0);
            due("all are here", x.units(0, 0), 8);
            due("the draws are over", x.count(6) / 65536, 5758);
        });
        test(13, "`lot`: the lot", () -> {
            LotInspector x = allBad(8);
            x.raw(1, 0, 8);
            x.inspect(0);
            x.inspect(1);
            x.sort(1);
            due("the lot 0", x.lot(0, 2), 2);
            due("the lot 1", x.lot(1, 2), 0);
        });
        test(13, "Returns the number of units that were scrapped by this.", () -> {
            LotInspector x = allBad(8);
            x.inspect(0);
            due("none", x.sort(0), 0);
            LotInspector y = allBad(8);
            y.product(0, 0, 15, 0);
            y.inspect(0);
            due("all", y.sort(0), 8);
            LotInspector z = scrapped();
            z.product(0, 0, 2, 0);
            z.inspect(4);
            due("not those of the sorting before", z.sort(4), 6);
            due("nine in all", z.units(4, 2), 9);
        });
        test(13, "Throws `IndexOutOfBoundsException` if there is no such lot", () -> {
            for (int n : beside(0, 7)) {
                refused("sort(" + n + ")", PLACE, Offices::busy, x -> x.sort(n));
            }
        });
        test(13, "Throws `IllegalStateException` if it is not rejected", () -> {
            refused("an accepted lot", STATE, Offices::busy, x -> x.sort(0));
            refused("a new lot", STATE, Offices::busy, x -> x.sort(2));
            refused("a shipped lot", STATE, Offices::busy, x -> x.sort(5));
            refused("a sorted lot", STATE, Offices::busy, x -> x.sort(6));
        });
    }

    private static void ship() {
        test(14, "Ships all units of a lot that are here.", () -> {
            LotInspector x = office();
            x.product(0, 30, 15, 3);
            x.machine(5, 6, 0);
            // Of 16 units, the bad unit 5 is drawn and set aside, which is allowed.
            x.inspect(x.raw(5, 0, 16));
            x.make(0, 1, 4, 0, -1, -1);
            x.ship(0);
            due("shipped", x.units(0, 4), 11);
            due("used", x.units(0, 3), 4);
            due("set aside", x.units(0, 1), 1);
            due("the state of the unit 5", x.unit(0, 5, 0), 1);
            due("the state of the unit 15", x.unit(0, 15, 0), 4);
        });
        test(14, "The lot becomes shipped.", () -> {
            LotInspector x = office();
            x.ship(blindLot(x, 1, 1));
            due("lot(0, 2)", x.lot(0, 2), 3);
        });
        test(14, "`lot`: the lot", () -> {
            LotInspector x = office();
            blindLot(x, 1, 2);
            blindLot(x, 1, 3);
            x.ship(1);
            due("the lot 0", x.units(0, 4), 0);
            due("the lot 1", x.units(1, 4), 3);
        });
        test(14, "Returns the number of units that were shipped.", () -> {
            LotInspector x = office();
            due("one", x.ship(blindLot(x, 1, 1)), 1);
            due("200", x.ship(blindLot(x, 1, 200)), 200);
            int lot = blindLot(x, 1, 5);
            x.make(0, 0, 4, lot, -1, -1);
            due("what is left", x.ship(lot), 1);
        });
        test(14, "Throws `IndexOutOfBoundsException` if there is no such lot", () -> {
            for (int n : beside(0, 7)) {
                refused("ship(" + n + ")", PLACE, Offices::busy, x -> x.ship(n));
            }
        });
        test(14, "Throws `IllegalStateException` if it is not accepted, or none of its units is here", () -> {
            refused("a waiting lot", STATE, Offices::busy, x -> x.ship(2));
            refused("a rejected lot", STATE, Offices::busy, x -> x.ship(3));
            refused("a shipped lot", STATE, Offices::busy, x -> x.ship(4));
            refused("an accepted lot that is used up", STATE, InspectionSentences::usedUp, x -> x.ship(0));
        });
    }

    private static LotInspector usedUp() {
        LotInspector x = busy();
        x.make(0, 0, 1, 0, -1, -1);
        return x;
    }

    private static void complain() {
        test(15, "Puts down a complaint of a unit.", () -> {
            LotInspector x = office();
            x.ship(blindLot(x, 2, 3));
            x.complain(0, 1);
            due("count(3)", x.count(3), 1);
            due("blamed", x.blame(2, 1), 1);
            due("the unit stays shipped", x.unit(0, 1, 0), 4);
        });
        test(15, "`lot`: the lot", () -> {
            LotInspector x = office();
            x.ship(blindLot(x, 1, 1));
            x.ship(blindLot(x, 2, 1));
            x.complain(1, 0);
            due("of the lot 1", x.blame(2, -1) * 10 + x.blame(1, -1), 10);
        });
        test(15, "`unit`: the unit", () -> {
            LotInspector x = office();
            x.machine(5, 2, 0);
            x.ship(blindLot(x, 5, 4));
            due("the unit 0 throws", thrownBy(x, y -> y.complain(0, 0)), NOTHING.getName());
            due("the unit 3", x.complain(0, 3), 1);
            due("the unit 1", x.complain(0, 1), 2);
        });
        test(15, "Returns the number of complaints so far.", () -> {
            LotInspector x = office();
            x.ship(blindLot(x, 1, 2));
            x.ship(blindLot(x, 2, 1));
            due("first", x.complain(0, 1), 1);
            due("second", x.complain(1, 0), 2);
            due("third", x.complain(0, 0), 3);
        });
        test(15, "Throws `IndexOutOfBoundsException` if there is no such lot or unit", () -> {
            for (int n : beside(0, 7)) {
                refused("complain(" + n + ", 0)", PLACE, Offices::busy, x -> x.complain(n, 0));
            }
            for (int n : beside(0, 1)) {
                refused("complain(4, " + n + ")", PLACE, Offices::busy, x -> x.complain(4, n));
            }
            for (int n : beside(0, 2)) {
                refused("complain(3, " + n + ") of a rejected lot, the place first", PLACE, Offices::busy,
                        x -> x.complain(3, n));
            }
        });
        test(15, "Throws `IllegalStateException` if the unit is not shipped, or was complained of already", () -> {
            refused("a unit here", STATE, Offices::busy, x -> x.complain(1, 2));
            refused("a unit set aside", STATE, InspectionSentences::twoAside, x -> x.complain(0, 4));
            refused("a scrapped unit", STATE, Offices::busy, x -> x.complain(7, 0));
            refused("a used unit", STATE, Offices::busy, x -> x.complain(1, 0));
            refused("a unit here without defects, the state first", STATE, Offices::busy, x -> x.complain(0, 2));
            refused("a used unit without defects, the state first", STATE, Offices::busy, x -> x.complain(0, 0));
            refused("complained of already", STATE, Offices::busy, x -> x.complain(4, 0));
            due("another unit of this lot", busy().complain(4, 1), 2);
        });
        test(15, "Throws `NoSuchElementException` if it has no defects", () -> {
            refused("complain(5, 0)", NOTHING, Offices::busy, x -> x.complain(5, 0));
            refused("complain(5, 1)", NOTHING, Offices::busy, x -> x.complain(5, 1));
        });
    }

    private static LotInspector twoAside() {
        LotInspector x = allBad(8);
        x.inspect(0);
        return x;
    }

    /** The chance as the document tells it, with a row of its own for each number of units drawn. */
    private static long chanceOf(int n, int b, int s, int a) {
        double[][] p = new double[s + 1][s + 2];
        p[0][0] = 1.0;
        for (int j = 0; j < s; j++) {
            double left = n - j;
            for (int k = 0; k <= j + 1; k++) {
                double good = Math.max(0, n - b - (j - k));
                double bad = Math.max(0, b - (k - 1));
                double before = k == 0 ? 0.0 : p[j][k - 1];
                p[j + 1][k] = p[j][k] * good / left + before * bad / left;
            }
        }
        double sum = 0.0;
        for (int k = 0; k <= Math.min(a, s); k++) {
            sum += p[s][k];
        }
        return Double.doubleToLongBits(sum);
    }

    /** An office with one lot, in which each unit whose number is a multiple of the period, counted from 1, is bad. */
    private static LotInspector oneLot(int size, int period, int limit) {
        LotInspector x = new LotInspector();
        x.product(0, limit, 15, 3);
        x.machine(0, period, 0);
        x.raw(0, 0, size);
        return x;
    }

    private static void chances() {
        test(19, "Chance. For a lot with n units here, b of which are bad, a sample of s units and a number a allowed by a "
                + "severity, the chance of acceptance is computed in double arithmetic: p(0) is 1.0, and all others are "
                + "0.0.", () -> {
            due("no bad units", oneLot(150, 0, 5).chance(0, 0), Double.doubleToLongBits(1.0));
            due("one of four, of which two are drawn", oneLot(4, 4, 5).chance(0, 0), Double.doubleToLongBits(0.5));
            due("the same, and one is allowed", oneLot(4, 4, 5).chance(0, 2), Double.doubleToLongBits(1.0));
            due("three of nine", oneLot(9, 3, 5).chance(0, 0),
                    Double.doubleToLongBits(1.0 * 6 / 9 * 5 / 8 * 4 / 7));
            // From the runs that come with the document: 60 units, 12 of which are bad, and the limit 10.
            due("12 of 60, normal", oneLot(60, 5, 10).chance(0, 0), 4596342944709585667L);
            due("12 of 60, tightened", oneLot(60, 5, 10).chance(0, 1), 4585542014350082113L);
            due("12 of 60, reduced", oneLot(60, 5, 10).chance(0, 2), 4604850021923178369L);
        });
        test(19, "For j from 0 to s - 1, all p(k) with k from 0 to j + 1 are replaced at once by p(k) * good / left + "
                + "p(k - 1) * bad / left, where left is n - j, good is n - b - (j - k), but at least 0, bad is b - "
                + "(k - 1), but at least 0, p(-1) is 0.0, and products come before quotients.", () -> {
            due("all are bad", oneLot(9, 1, 5).chance(0, 0), 0L);
            for (int size : new int[] {7, 25, 90, 199, 200}) {
                for (int period = 1; period < 8; period++) {
                    due("each of " + period + " of " + size, oneLot(size, period, 30).chance(0, 0),
                            chanceOf(size, size / period, new LotInspector().table(0, size, 0, true),
                                    oneLot(size, period, 30).table(0, size, 0, false)));
                }
            }
        });
        test(19, "The chance is the sum of p(0), p(1) and so on up to p(a), or p(s) if s is less, added in this order "
                + "beginning with 0.0.", () -> {
            due("one of one, normal", oneLot(1, 1, 30).chance(0, 0), 0L);
            due("one of one, and one is allowed", oneLot(1, 1, 30).chance(0, 2), Double.doubleToLongBits(1.0));
            for (int severity = 0; severity < 3; severity++) {
                LotInspector x = oneLot(200, 3, 30);
                due("66 of 200, severity " + severity, x.chance(0, severity), chanceOf(200, 66,
                        severity == 2 ? 13 : 32, severity == 2 ? 4 : 9 - severity));
                due("one bad unit, nine allowed", oneLot(200, 50, 30).chance(0, 0), chanceOf(200, 4, 32, 9));
            }
        });
    }

    private static void chance() {
        test(19, "Returns the chance that a lot would be accepted by an inspection of a severity, whatever its status is.",
                () -> {
            LotInspector x = oneLot(9, 3, 30);
            long before = x.chance(0, 0);
            due("waiting", before, chanceOf(9, 3, 3, 0));
            // Of nine, 8, 6 and 5 are drawn; 8 and 5 are bad.
            x.inspect(0);
            due("rejected: one bad unit of seven", x.chance(0, 0), chanceOf(7, 1, 2, 0));
            LotInspector y = oneLot(10, 5, 0);
            y.product(0, 0, 0, 0);
            y.inspect(0);
            y.product(0, 0, 1, 0);
            due("accepted", y.chance(0, 0), chanceOf(10, 2, 3, 0));
            due("nothing changes", y.chance(0, 0), chanceOf(10, 2, 3, 0));
            due("a stopped product", stopped().chance(0, 0), 0L);
        });
        test(19, "`lot`: the lot", () -> {
            LotInspector x = oneLot(4, 4, 5);
            x.raw(1, 0, 4);
            due("the lot 0", x.chance(0, 0), Double.doubleToLongBits(0.5));
            due("the lot 1", x.chance(1, 0), Double.doubleToLongBits(1.0));
        });
        test(19, "`severity`: the severity, 0 to 2", () -> {
            LotInspector x = oneLot(50, 2, 30);
            due("normal", x.chance(0, 0), chanceOf(50, 25, 8, 2));
            due("tightened", x.chance(0, 1), chanceOf(50, 25, 8, 1));
            due("reduced", x.chance(0, 2), chanceOf(50, 25, 3, 1));
        });
        test(19, "Returns the bits of the chance, as Double.doubleToLongBits gives them.", () -> {
            due("1.0", oneLot(5, 0, 5).chance(0, 0), 0x3ff0000000000000L);
            due("0.5", oneLot(4, 4, 5).chance(0, 0), 0x3fe0000000000000L);
            due("0.0", oneLot(5, 1, 5).chance(0, 0), 0L);
            due("one of eight, two drawn", oneLot(8, 8, 5).chance(0, 0), chanceOf(8, 1, 2, 0));
            due("very small", oneLot(200, 2, 0).chance(0, 0), chanceOf(200, 100, 32, 0));
            for (int size = 1; size < 60; size++) {
                LotInspector x = oneLot(size, 4, 30);
                for (int severity = 0; severity < 3; severity++) {
                    due("each fourth of " + size + ", severity " + severity, x.chance(0, severity), chanceOf(size,
                            size / 4, x.table(0, size, severity, true), x.table(0, size, severity, false)));
                }
            }
        });
        test(19, "Throws `IndexOutOfBoundsException` if there is no such lot", () -> {
            for (int n : beside(0, 7)) {
                refused("chance(" + n + ", 0)", PLACE, Offices::busy, x -> x.chance(n, 0));
                refused("chance(" + n + ", 3), the place first", PLACE, Offices::busy, x -> x.chance(n, 3));
            }
        });
        test(19, "Throws `IllegalArgumentException` if severity is not 0 to 2", () -> {
            for (int n : beside(0, 2)) {
                refused("chance(0, " + n + ")", NUMBER, Offices::busy, x -> x.chance(0, n));
                refused("chance(7, " + n + ") with none here, the number first", NUMBER, Offices::busy,
                        x -> x.chance(7, n));
            }
        });
        test(19, "Throws `IllegalStateException` if none of its units is here", () -> {
            refused("all are scrapped", STATE, Offices::busy, x -> x.chance(7, 0));
            refused("all are shipped", STATE, Offices::busy, x -> x.chance(5, 2));
            refused("all are used", STATE, InspectionSentences::usedUp, x -> x.chance(0, 1));
            refused("all are set aside", STATE, InspectionSentences::allAside, x -> x.chance(0, 1));
        });
    }

    private static LotInspector allAside() {
        LotInspector x = allBad(2);
        x.inspect(0);
        return x;
    }
}

/** Products, sampling and switching, and the promises 4 to 8. */
final class ProductSentences extends Offices {
    static void all() {
        products();
        sampling();
        memories();
        fromNormal();
        fromOthers();
        setting();
        policy();
        table();
        afterwards();
        release();
    }

    private static void products() {
        test(4, "Products. There are 4 products, numbered from 0.", () -> {
            LotInspector x = new LotInspector();
            for (int p = 0; p < 4; p++) {
                x.product(p, p + 1, p, p);
            }
            for (int p = 0; p < 4; p++) {
                due("policy(" + p + ", 0)", x.policy(p, 0), p + 1);
            }
            refused("a fifth product", PLACE, Offices::busy, y -> y.product(4, 1, 1, 1));
        });
        test(5, "A product has a limit in percent, 0 to 30, at first 5; a set of kinds that are inspected, at first 15; "
                + "a set of kinds that can be repaired, at first 3; and a severity: 0 normal, 1 tightened, 2 reduced, "
                + "3 stopped; at first 0.", () -> {
            int[] first = {5, 15, 3, 0};
            for (int p = 0; p < 4; p++) {
                for (int what = 0; what < 4; what++) {
                    due("policy(" + p + ", " + what + ")", new LotInspector().policy(p, what), first[what]);
                }
            }
            due("tightened", after("rr").policy(0, 3), 1);
            due("reduced", after("aaaaa").policy(0, 3), 2);
            due("stopped", stopped().policy(0, 3), 3);
        });
        test(18, "A unit of a lot is bad if it has a defect of a kind that is inspected for the product of the lot, as "
                + "it is now.", () -> {
            LotInspector x = office();
            x.raw(2, 1, 1);
            x.raw(0, 1, 1);
            due("with an inspected defect", x.unit(0, 0, 3), 1);
            due("without defects", x.unit(1, 0, 3), 0);
            x.product(1, 5, 15 - 2, 15);
            due("all but its kind are inspected", x.unit(0, 0, 3), 0);
            due("and no unit is bad", x.units(0, -1), 0);
            x.product(1, 5, 2, 15);
            due("its kind is inspected", x.unit(0, 0, 3), 1);
            x.product(1, 5, 0, 15);
            due("nothing is inspected", x.unit(0, 0, 3), 0);
            x.product(0, 5, 15, 15);
            due("another product does not matter", x.unit(0, 0, 3), 0);
        });
    }

    private static final int[] UNITS = {1, 2, 3, 8, 9, 15, 16, 25, 26, 50, 51, 90, 91, 150, 151, 200};

    private static void sizes(int severity, int... due) {
        LotInspector x = new LotInspector();
        for (int i = 0; i < UNITS.length; i++) {
            due("table(0, " + UNITS[i] + ", " + severity + ", true)", x.table(0, UNITS[i], severity, true), due[i]);
        }
    }

    private static void allowed(int limit, int severity, int... due) {
        LotInspector x = new LotInspector();
        x.product(2, limit, 15, 3);
        for (int i = 0; i < UNITS.length; i++) {
            due("limit " + limit + ", table(2, " + UNITS[i] + ", " + severity + ", false)",
                    x.table(2, UNITS[i], severity, false), due[i]);
        }
    }

    private static void sampling() {
        test(6, "Sampling. The band of a number of units is 0 up to 8 units, 1 up to 15, 2 up to 25, 3 up to 50, 4 up to "
                + "90, 5 up to 150 and 6 above.", () -> sizes(0, 1, 2, 2, 2, 3, 3, 5, 5, 8, 8, 13, 13, 20, 20, 32, 32));
        test(6, "The sizes of the bands 0 to 6 are 2, 3, 5, 8, 13, 20 and 32.", () -> {
            LotInspector x = new LotInspector();
            int[] inBand = {5, 12, 20, 40, 70, 120, 180};
            int[] size = {2, 3, 5, 8, 13, 20, 32};
            for (int i = 0; i < size.length; i++) {
                due("band " + i, x.table(3, inBand[i], 0, true), size[i]);
            }
        });
        test(6, "For n units, a sample has the size of the band of n if it is normal or tightened,", () ->
                sizes(1, 1, 2, 2, 2, 3, 3, 5, 5, 8, 8, 13, 13, 20, 20, 32, 32));
        test(6, "and the size of the band two lower, but at least of band 0, if it is reduced;", () ->
                sizes(2, 1, 2, 2, 2, 2, 2, 2, 2, 3, 3, 5, 5, 8, 8, 13, 13));
        test(6, "but at most n units.", () -> {
            LotInspector x = new LotInspector();
            for (int severity = 0; severity < 3; severity++) {
                due("one unit, severity " + severity, x.table(0, 1, severity, true), 1);
                due("two units, severity " + severity, x.table(0, 2, severity, true), 2);
            }
        });
        test(6, "For a sample of s units and a limit q, the number allowed is s * q / 100, rounded down, if it is "
                + "normal;", () -> {
            allowed(30, 0, 0, 0, 0, 0, 0, 0, 1, 1, 2, 2, 3, 3, 6, 6, 9, 9);
            allowed(25, 0, 0, 0, 0, 0, 0, 0, 1, 1, 2, 2, 3, 3, 5, 5, 8, 8);
            allowed(24, 0, 0, 0, 0, 0, 0, 0, 1, 1, 1, 1, 3, 3, 4, 4, 7, 7);
            allowed(23, 0, 0, 0, 0, 0, 0, 0, 1, 1, 1, 1, 2, 2, 4, 4, 7, 7);
            allowed(5, 0, 0, 0, 0, 0, 0, 0, 0, 0, 0, 0, 0, 0, 1, 1, 1, 1);
            allowed(0, 0, 0, 0, 0, 0, 0, 0, 0, 0, 0, 0, 0, 0, 0, 0, 0, 0);
        });
        test(6, "one less, but at least 0, if it is tightened;", () -> {
            allowed(30, 1, 0, 0, 0, 0, 0, 0, 0, 0, 1, 1, 2, 2, 5, 5, 8, 8);
            allowed(0, 1, 0, 0, 0, 0, 0, 0, 0, 0, 0, 0, 0, 0, 0, 0, 0, 0);
        });
        test(6, "and one more if it is reduced.", () -> {
            allowed(30, 2, 1, 1, 1, 1, 1, 1, 1, 1, 1, 1, 2, 2, 3, 3, 4, 4);
            allowed(0, 2, 1, 1, 1, 1, 1, 1, 1, 1, 1, 1, 1, 1, 1, 1, 1, 1);
        });
    }

    /** The score, the inspections in the memory and those that were rejected, as 100 s + 10 n + r. */
    private static int memory(LotInspector x, int product) {
        return 100 * x.policy(product, 4) + 10 * x.policy(product, 5) + x.policy(product, 6);
    }

    private static void memories() {
        test(5, "Switching. Each product has a memory of first inspections of its lots, accepted or rejected, and a "
                + "score.", () -> {
            LotInspector x = after("araa");
            inspectedLot(x, 0, 2, 9);
            due("the product 0", memory(x, 0), 641);
            due("the product 1", memory(x, 1), 0);
            due("the product 2", memory(x, 2), 310);
        });
        test(5, "They are empty and 0 at first", () -> {
            for (int p = 0; p < 4; p++) {
                due("the product " + p, memory(new LotInspector(), p), 0);
            }
        });
        test(5, "and whenever the severity becomes another one.", () -> {
            due("normal to tightened", memory(after("aarr"), 0), 0);
            due("normal with a score to tightened", memory(after("raar"), 0), 0);
            due("normal to reduced", memory(after("raaaaa"), 0), 0);
            due("tightened to normal", memory(after("rrraaaaa"), 0), 0);
            due("tightened to stopped", memory(after("rrarrrrr"), 0), 0);
            due("reduced to normal", memory(after("aaaaaaar"), 0), 0);
            LotInspector x = stopped();
            x.release(0);
            due("stopped to tightened", memory(x, 0), 0);
        });
        test(7, "The inspection is put into the memory, and then:", () -> {
            due("this one is the second rejected", after("r").afterwards(0, 1, 0), 1);
            due("this one is the fifth accepted", after("rraaaa").afterwards(0, 0, 0), 0);
            due("this one is the fifth rejected", after("rrrrrr").afterwards(0, 1, 0), 3);
            due("one is in the memory", memory(after("r"), 0), 11);
        });
    }

    private static void fromNormal() {
        test(7, "If the severity is normal and the lot was rejected, and at least 2 of the latest 5 inspections in the "
                + "memory, or of all if there are fewer, were rejected, it becomes tightened;", () -> {
            due("one of one", after("r").policy(0, 3), 0);
            due("two of two", after("rr").policy(0, 3), 1);
            due("one of four", after("aaar").policy(0, 3), 0);
            due("two of three", after("rar").policy(0, 3), 1);
            due("two of the latest five, just", after("raaar").policy(0, 3), 1);
            due("the other one is the sixth", after("raaaar").policy(0, 3), 0);
            due("two of the latest five after that", after("raaaarr").policy(0, 3), 1);
            due("two of five, but this one was accepted", after("raara").policy(0, 3), 1);
            due("an accepted one does not tighten", after("r").afterwards(0, 0, 0), 0);
        });
        test(7, "otherwise, if the lot was accepted and twice the number found is at most the number allowed, the score "
                + "increases by 3,", () -> {
            due("after one", after("a").policy(0, 4), 3);
            due("after four", after("aaaa").policy(0, 4), 12);
            due("half of 2", after("aaaa").afterwards(0, 1, 2), 2);
            due("more than half of 3", after("aaaa").afterwards(0, 2, 3), 0);
            due("less than half of 3", after("aaaa").afterwards(0, 1, 3), 2);
            due("half of 200", after("aaaa").afterwards(0, 100, 200), 2);
            due("more than half of 200", after("aaaa").afterwards(0, 101, 200), 0);
            due("none of none", after("aaaa").afterwards(0, 0, 0), 2);
            due("rejected", after("aaaa").afterwards(0, 1, 0), 0);
        });
        test(7, "and the severity becomes reduced if the score is 15;", () -> {
            due("after four", after("aaaa").policy(0, 3), 0);
            due("after five", after("aaaaa").policy(0, 3), 2);
            due("after four of another product", after("aaaa").afterwards(1, 0, 0), 0);
            due("after a rejected one and four", after("araaaa").policy(0, 3), 0);
            due("after a rejected one and five", after("araaaaa").policy(0, 3), 2);
        });
        test(5, "otherwise the score becomes 0.", () -> {
            due("after a rejected one", memory(after("aar"), 0), 31);
            LotInspector x = after("aa");
            x.product(0, 20, 15, 3);
            x.machine(5, 14, 0);
            x.seed(1);
            // Of 20 units, 18, 1, 16, 6 and 13 are drawn; 13 is the bad one, and one of five is allowed.
            due("one is found", x.inspect(x.raw(5, 0, 20)), 1);
            due("which is allowed", x.lot(2, 2), 1);
            due("after as many as are allowed", memory(x, 0), 30);
        });
    }

    private static void fromOthers() {
        test(7, "If the severity is tightened and the lot was accepted, it becomes normal if there are at least 5 "
                + "inspections in the memory and the latest 5 of them were accepted;", () -> {
            due("four accepted", after("rraaaa").policy(0, 3), 1);
            due("five accepted", after("rraaaaa").policy(0, 3), 0);
            due("a rejected one among the latest five", after("rraaaaraaaa").policy(0, 3), 1);
            due("five after a rejected one", after("rraaaaraaaaa").policy(0, 3), 0);
            due("the score stays 0", after("rraaaa").policy(0, 4), 0);
        });
        test(7, "if the lot was rejected, it becomes stopped if 5 inspections in the memory were rejected.", () -> {
            due("four rejected", after("rrrrrr").policy(0, 3), 1);
            due("five rejected", after("rrrrrrr").policy(0, 3), 3);
            due("five rejected with others between", after("rrrararaarar").policy(0, 3), 3);
            due("four rejected with others between", after("rrrararaara").policy(0, 3), 1);
            due("four rejected, and this one is accepted", after("rrrrrr").afterwards(0, 0, 0), 1);
        });
        test(7, "If the severity is reduced, it becomes normal if the lot was rejected or the number found equals the "
                + "number allowed.", () -> {
            LotInspector x = after("aaaaa");
            due("fewer found", x.afterwards(0, 1, 2), 2);
            due("none found, one allowed", x.afterwards(0, 0, 1), 2);
            due("as many found", x.afterwards(0, 2, 2), 0);
            due("none found, none allowed", x.afterwards(0, 0, 0), 0);
            due("rejected", x.afterwards(0, 3, 2), 0);
            due("many accepted", after("aaaaaaaaaaaa").policy(0, 3), 2);
            due("many accepted, the memory", memory(after("aaaaaaaaaaaa"), 0), 70);
            due("rejected after accepted ones", after("aaaaaar").policy(0, 3), 0);
        });
    }

    private static void setting() {
        test(4, "Sets a product.", () -> {
            LotInspector x = new LotInspector();
            x.product(1, 12, 6, 9);
            due("the product", x.policy(1, 0) * 10000 + x.policy(1, 1) * 100 + x.policy(1, 2), 120609);
            due("another product", x.policy(0, 0) * 10000 + x.policy(0, 1) * 100 + x.policy(0, 2), 51503);
        });
        test(4, "Its severity, memory and score stay.", () -> {
            LotInspector x = after("rraar");
            x.product(0, 9, 8, 4);
            due("the severity", x.policy(0, 3), 1);
            due("the memory", memory(x, 0), 31);
            LotInspector y = after("raa");
            y.product(0, 9, 8, 4);
            due("the score", memory(y, 0), 631);
        });
        test(4, "`product`: the product, 0 to 3", () -> {
            for (int p = 0; p < 4; p++) {
                LotInspector x = new LotInspector();
                x.product(p, 8, 4, 2);
                for (int other = 0; other < 4; other++) {
                    due("policy(" + other + ", 0)", x.policy(other, 0), other == p ? 8 : 5);
                }
            }
        });
        test(4, "`limit`: the limit, 0 to 30", () -> {
            LotInspector x = new LotInspector();
            for (int limit = 0; limit <= 30; limit++) {
                x.product(0, limit, 15, 3);
                due("policy(0, 0)", x.policy(0, 0), limit);
            }
        });
        test(4, "`inspected`: the set of kinds that are inspected, 0 to 15", () -> {
            LotInspector x = new LotInspector();
            for (int set = 0; set <= 15; set++) {
                x.product(0, 5, set, 3);
                due("policy(0, 1)", x.policy(0, 1), set);
            }
        });
        test(4, "`repairable`: the set of kinds that can be repaired, 0 to 15", () -> {
            LotInspector x = new LotInspector();
            for (int set = 0; set <= 15; set++) {
                x.product(0, 5, 15, set);
                due("policy(0, 2)", x.policy(0, 2), set);
            }
        });
        test(4, "Returns the previous limit.", () -> {
            LotInspector x = new LotInspector();
            due("first", x.product(3, 30, 0, 15), 5);
            due("second", x.product(3, 0, 15, 0), 30);
            due("third", x.product(3, 7, 1, 1), 0);
            due("another product", x.product(2, 7, 1, 1), 5);
        });
        test(4, "Throws `IndexOutOfBoundsException` if there is no such product", () -> {
            for (int p : beside(0, 3)) {
                refused("product(" + p + ", 1, 1, 1)", PLACE, Offices::busy, x -> x.product(p, 1, 1, 1));
                refused("product(" + p + ", 31, 16, 16), the place first", PLACE, Offices::busy,
                        x -> x.product(p, 31, 16, 16));
            }
        });
        test(4, "Throws `IllegalArgumentException` if a number is out of range", () -> {
            for (int n : beside(0, 30)) {
                refused("product(0, " + n + ", 1, 1)", NUMBER, Offices::busy, x -> x.product(0, n, 1, 1));
            }
            for (int n : beside(0, 15)) {
                refused("product(0, 1, " + n + ", 1)", NUMBER, Offices::busy, x -> x.product(0, 1, n, 1));
                refused("product(0, 1, 1, " + n + ")", NUMBER, Offices::busy, x -> x.product(0, 1, 1, n));
            }
        });
    }

    private static void policy() {
        test(5, "Returns a number of a product.", () -> {
            LotInspector x = after("rr");
            due("policy(0, 3)", x.policy(0, 3), 1);
            due("policy(0, 3) again", x.policy(0, 3), 1);
        });
        test(5, "`product`: the product", () -> {
            LotInspector x = after("rr");
            x.product(3, 17, 1, 1);
            due("policy(3, 0)", x.policy(3, 0), 17);
            due("policy(3, 3)", x.policy(3, 3), 0);
            due("policy(0, 0)", x.policy(0, 0), 5);
        });
        test(5, "`what`: 0 the limit; 1 the set of kinds that are inspected; 2 the set of kinds that can be repaired; 3 "
                + "the severity; 4 the score; 5 the number of inspections in the memory; 6 how many of these were "
                + "rejected", () -> {
            LotInspector x = after("raaa");
            x.product(0, 12, 6, 10);
            int[] normal = {12, 6, 10, 0, 9, 4, 1};
            LotInspector y = after("rrrarr");
            int[] tightened = {5, 15, 3, 1, 0, 4, 3};
            for (int what = 0; what < 7; what++) {
                due("policy(0, " + what + ")", x.policy(0, what), normal[what]);
                due("tightened, policy(0, " + what + ")", y.policy(0, what), tightened[what]);
            }
        });
        test(5, "Returns the number.", () -> {
            LotInspector x = after("rraaaaraaaaraaaaraaaar");
            due("a memory of 20, of which 4", memory(x, 0), 204);
        });
        test(5, "Throws `IndexOutOfBoundsException` if there is no such product", () -> {
            for (int p : beside(0, 3)) {
                refused("policy(" + p + ", 6)", PLACE, Offices::busy, x -> x.policy(p, 6));
                refused("policy(" + p + ", 7), the place first", PLACE, Offices::busy, x -> x.policy(p, 7));
            }
        });
        test(5, "Throws `IllegalArgumentException` if what is not 0 to 6", () -> {
            for (int n : beside(0, 6)) {
                refused("policy(3, " + n + ")", NUMBER, Offices::busy, x -> x.policy(3, n));
            }
        });
    }

    private static void table() {
        test(6, "Returns the size of a sample, or the number allowed for it, by the limit of a product.", () -> {
            LotInspector x = new LotInspector();
            x.product(1, 30, 15, 3);
            due("the size", x.table(1, 200, 0, true), 32);
            due("allowed by the limit 30", x.table(1, 200, 0, false), 9);
            due("allowed by the limit 5", x.table(0, 200, 0, false), 1);
        });
        test(6, "`product`: the product", () -> {
            LotInspector x = new LotInspector();
            for (int p = 0; p < 4; p++) {
                x.product(p, 10 * p, 15, 3);
            }
            for (int p = 0; p < 4; p++) {
                due("table(" + p + ", 150, 0, false)", x.table(p, 150, 0, false), 2 * p);
            }
        });
        test(6, "`units`: the number of units, 1 to 200", () -> {
            LotInspector x = new LotInspector();
            due("table(0, 1, 0, true)", x.table(0, 1, 0, true), 1);
            due("table(0, 200, 0, true)", x.table(0, 200, 0, true), 32);
        });
        test(6, "`severity`: the severity, 0 to 2", () -> {
            LotInspector x = new LotInspector();
            int[] size = {20, 20, 8};
            int[] allowed = {1, 0, 1};
            for (int severity = 0; severity <= 2; severity++) {
                due("table(0, 150, " + severity + ", true)", x.table(0, 150, severity, true), size[severity]);
                due("table(0, 150, " + severity + ", false)", x.table(0, 150, severity, false), allowed[severity]);
            }
            due("whatever the severity of the product is", stopped().table(0, 150, 0, true), 20);
        });
        test(6, "`isSize`: true for the size, false for the number allowed", () -> {
            LotInspector x = new LotInspector();
            due("true", x.table(0, 100, 0, true), 20);
            due("false", x.table(0, 100, 0, false), 1);
        });
        test(6, "Returns the number.", () -> {
            LotInspector x = new LotInspector();
            due("table(0, 91, 2, true)", x.table(0, 91, 2, true), 8);
            due("table(0, 91, 2, true) again", x.table(0, 91, 2, true), 8);
            due("nothing changes", x.count(4), 0);
        });
        test(6, "Throws `IndexOutOfBoundsException` if there is no such product", () -> {
            for (int p : beside(0, 3)) {
                refused("table(" + p + ", 1, 0, true)", PLACE, Offices::busy, x -> x.table(p, 1, 0, true));
                refused("table(" + p + ", 0, 3, true), the place first", PLACE, Offices::busy,
                        x -> x.table(p, 0, 3, true));
            }
        });
        test(6, "Throws `IllegalArgumentException` if units or severity is out of range", () -> {
            for (int n : beside(1, 200)) {
                refused("table(0, " + n + ", 0, true)", NUMBER, Offices::busy, x -> x.table(0, n, 0, true));
                refused("table(0, " + n + ", 0, false)", NUMBER, Offices::busy, x -> x.table(0, n, 0, false));
            }
            for (int n : beside(0, 2)) {
                refused("table(0, 1, " + n + ", true)", NUMBER, Offices::busy, x -> x.table(0, 1, n, true));
                refused("table(0, 1, " + n + ", false)", NUMBER, Offices::busy, x -> x.table(0, 1, n, false));
            }
        });
        test(6, "In doubt. The number allowed goes by the size of the sample as it is cut to the units.", () -> {
            LotInspector x = new LotInspector();
            x.product(0, 30, 15, 3);
            due("30 percent of one unit", x.table(0, 1, 0, false), 0);
            due("and one more", x.table(0, 1, 2, false), 1);
        });
    }

    private static void afterwards() {
        test(7, "Returns which severity a product would have after one more first inspection of one of its lots.", () -> {
            for (String before : new String[] {"", "r", "aaaa", "raaa", "rr", "rraaaa", "rrrrrr", "aaaaa"}) {
                int allowed = before.equals("aaaaa") ? 1 : 0;
                due(before + "a", after(before).afterwards(0, 0, allowed), after(before + "a").policy(0, 3));
                due(before + "r", after(before).afterwards(0, allowed + 1, allowed), after(before + "r").policy(0, 3));
            }
            due("a product in the list of others", after("rr").afterwards(1, 1, 0), 0);
        });
        test(7, "Nothing changes.", () -> {
            for (String before : new String[] {"aaaa", "rrrrrr", "aaaaa"}) {
                LotInspector x = after(before);
                x.afterwards(0, 0, 0);
                x.afterwards(0, 9, 0);
                due("the state after " + before, States.of(x), States.of(after(before)));
            }
        });
        test(7, "`product`: the product", () -> {
            LotInspector x = after("aaaaa");
            due("the product 0", x.afterwards(0, 0, 1), 2);
            for (int p = 1; p < 4; p++) {
                due("the product " + p, x.afterwards(p, 0, 1), 0);
            }
        });
        test(7, "`found`: the number found, 0 to 200", () -> {
            LotInspector x = after("aaaaa");
            due("afterwards(0, 0, 200)", x.afterwards(0, 0, 200), 2);
            due("afterwards(0, 199, 200)", x.afterwards(0, 199, 200), 2);
            due("afterwards(0, 200, 200)", x.afterwards(0, 200, 200), 0);
        });
        test(7, "`allowed`: the number allowed, 0 to 200; the lot is rejected if found is greater", () -> {
            LotInspector x = after("rraaaa");
            due("as many as allowed", x.afterwards(0, 3, 3), 0);
            due("one more than allowed", x.afterwards(0, 4, 3), 1);
            due("200 of 200", x.afterwards(0, 200, 200), 0);
            due("200 of 199", x.afterwards(0, 200, 199), 1);
            due("none of none", x.afterwards(0, 0, 0), 0);
            due("one of none", x.afterwards(0, 1, 0), 1);
        });
        test(7, "Returns the severity.", () -> {
            due("normal", after("a").afterwards(0, 0, 0), 0);
            due("tightened", after("r").afterwards(0, 1, 0), 1);
            due("reduced", after("aaaa").afterwards(0, 0, 0), 2);
            due("stopped", after("rrrrrr").afterwards(0, 1, 0), 3);
        });
        test(7, "Throws `IndexOutOfBoundsException` if there is no such product", () -> {
            for (int p : beside(0, 3)) {
                refused("afterwards(" + p + ", 0, 0)", PLACE, Offices::busy, x -> x.afterwards(p, 0, 0));
                refused("afterwards(" + p + ", -1, 201), the place first", PLACE, Offices::busy,
                        x -> x.afterwards(p, -1, 201));
            }
        });
        test(7, "Throws `IllegalArgumentException` if a number is out of range", () -> {
            for (int n : beside(0, 200)) {
                refused("afterwards(0, " + n + ", 0)", NUMBER, Offices::busy, x -> x.afterwards(0, n, 0));
                refused("afterwards(0, 0, " + n + ")", NUMBER, Offices::busy, x -> x.afterwards(0, 0, n));
                refused("afterwards(0, " + n + ", 0) of a stopped product, the number first", NUMBER,
                        Offices::stopped, x -> x.afterwards(0, n, 0));
            }
        });
        test(7, "Throws `IllegalStateException` if the product is stopped", () -> {
            refused("afterwards(0, 0, 0)", STATE, Offices::stopped, x -> x.afterwards(0, 0, 0));
            due("another product", stopped().afterwards(1, 0, 0), 0);
        });
    }

    private static void release() {
        test(8, "Makes a product that is stopped tightened.", () -> {
            LotInspector x = stopped();
            x.release(0);
            due("policy(0, 3)", x.policy(0, 3), 1);
            due("another product", x.policy(1, 3), 0);
            inspected(x, 0);
            due("its lots are inspected again", x.lot(7, 4), 1);
            due("and remembered", memory(x, 0), 10);
        });
        test(8, "`product`: the product", () -> {
            LotInspector x = office();
            for (int i = 0; i < 14; i++) {
                inspectedLot(x, 1, 2 + i % 2, 2);
            }
            due("two are stopped", x.policy(2, 3) * 10 + x.policy(3, 3), 33);
            x.release(3);
            due("one is released", x.policy(2, 3) * 10 + x.policy(3, 3), 31);
        });
        test(8, "Returns the number of its lots that are waiting.", () -> {
            due("none", stopped().release(0), 0);
            LotInspector x = stopped();
            x.raw(0, 0, 1);
            x.raw(0, 1, 1);
            x.raw(0, 0, 1);
            x.sort(0);
            x.sort(3);
            due("two new and two sorted", x.release(0), 4);
        });
        test(8, "Throws `IndexOutOfBoundsException` if there is no such product", () -> {
            for (int p : beside(0, 3)) {
                refused("release(" + p + ")", PLACE, Offices::stopped, x -> x.release(p));
            }
        });
        test(8, "Throws `IllegalStateException` if it is not stopped", () -> {
            refused("normal", STATE, Offices::stopped, x -> x.release(1));
            refused("tightened", STATE, () -> after("rr"), x -> x.release(0));
            refused("reduced", STATE, () -> after("aaaaa"), x -> x.release(0));
            refused("released already", STATE, () -> released(), x -> x.release(0));
        });
    }

    private static LotInspector released() {
        LotInspector x = stopped();
        x.release(0);
        return x;
    }
}

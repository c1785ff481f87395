/** Drawers, and the promises 29 to 31. */
final class DrawerSentences extends Offices {
    static void all() {
        drawers();
        open();
        keep();
        keepRefused();
        specimen();
    }

    /** Lot 3 has three units with the defect 3 only, each repaired twice; they are bad if 8 is inspected. */
    private static LotInspector repairedTwice(int inspected) {
        LotInspector x = office();
        int a = blindLot(x, 1, 3);
        int b = blindLot(x, 2, 3);
        int c = blindLot(x, 4, 3);
        x.product(0, 0, 1, 1);
        int lot = x.make(0, 0, 3, a, b, c);
        x.inspect(lot);
        x.sort(lot);
        x.product(0, 0, 2, 2);
        x.inspect(lot);
        x.sort(lot);
        x.product(0, 0, inspected, 0);
        return x;
    }

    private static void drawers() {
        test(30, "Drawers. There are 4 drawers, numbered from 0, with a kind and at most 5 specimens each:", () -> {
            LotInspector x = office();
            x.raw(0, 0, 5);
            for (int d = 0; d < 4; d++) {
                for (int i = 0; i < 5; i++) {
                    due("keep(" + d + ", 0, " + i + ")", x.keep(d, 0, i), i + 1);
                }
                int drawer = d;
                due("a sixth one throws", thrownBy(x, y -> y.keep(drawer, 0, 0)), STATE.getName());
            }
            refused("a fifth drawer", PLACE, Offices::busy, y -> y.keep(4, 0, 0));
        });
        test(30, "a drawer of the kind 0, as all are at first, takes each unit;", () -> {
            LotInspector x = busy();
            due("a good unit", x.keep(0, 0, 2), 2);
            due("a bad unit", x.keep(0, 3, 0), 3);
            due("a scrapped unit", x.keep(0, 7, 0), 4);
            LotInspector y = new LotInspector();
            y.raw(0, 0, 1);
            for (int d = 0; d < 4; d++) {
                due("a good unit, drawer " + d, y.keep(d, 0, 0), 1);
            }
        });
        test(30, "of the kind 1, units that are bad;", () -> {
            LotInspector x = busy();
            due("a bad unit", x.keep(1, 3, 0), 2);
            due("a scrapped one that is bad", x.keep(1, 7, 1), 3);
            refused("a unit without defects", NOT_TAKEN, Offices::busy, y -> y.keep(1, 0, 0));
            refused("a unit with a defect that is not inspected", NOT_TAKEN, Offices::busy, y -> y.keep(1, 1, 0));
            refused("a repaired unit", NOT_TAKEN, Offices::busy, y -> y.keep(1, 6, 0));
            x.product(3, 5, 1, 0);
            due("a unit whose defect is inspected now", x.keep(1, 1, 0), 4);
        });
        test(30, "of the kind 2, units that are bad and were repaired 2 times.", () -> {
            LotInspector x = repairedTwice(8);
            x.open(0, 2);
            due("bad and repaired twice", x.keep(0, 3, 1), 1);
            x.product(0, 0, 7, 0);
            due("repaired twice, but not bad", thrownBy(x, y -> y.keep(0, 3, 1)), NOT_TAKEN.getName());
            refused("bad, but not repaired", NOT_TAKEN, Offices::busy, y -> y.keep(2, 3, 0));
            LotInspector once = busy();
            // Lot 6 was repaired once. Another repair than its own gets none of its units bad, so a new defect has to.
            due("repaired once and not bad", thrownBy(once, y -> y.keep(2, 6, 0)), NOT_TAKEN.getName());
            LotInspector bad = office();
            bad.product(0, 0, 15, 1);
            bad.raw(1, 0, 8);
            bad.inspect(0);
            bad.sort(0);
            bad.open(2, 2);
            due("the seventh repair left this one bad", bad.unit(0, 6, 3), 1);
            due("repaired once and bad", thrownBy(bad, y -> y.keep(2, 0, 6)), NOT_TAKEN.getName());
        });
        test(31, "A specimen is a record of a unit as it is when it is kept; whatever becomes of the unit does not change "
                + "it.", () -> {
            LotInspector x = office();
            x.product(0, 0, 1, 1);
            x.raw(1, 0, 8);
            x.keep(3, 0, 7);
            x.inspect(0);
            x.sort(0);
            due("the unit now", x.unit(0, 7, 1) * 10 + x.unit(0, 7, 2), 1);
            due("the specimen", x.specimen(3, 0, 2) * 10 + x.specimen(3, 0, 3), 10);
            x.keep(3, 0, 7);
            due("a later specimen of it", x.specimen(3, 1, 2) * 10 + x.specimen(3, 1, 3), 1);
            for (int i = 0; i < 3; i++) {
                x.undo();
            }
            due("no lot is left", x.count(0), 0);
            due("the specimen still", x.specimen(3, 0, 2) * 10 + x.specimen(3, 0, 1), 17);
        });
    }

    private static void open() {
        test(29, "Empties a drawer and gives it a kind.", () -> {
            LotInspector x = busy();
            x.open(3, 1);
            due("no specimen is left", thrownBy(x, y -> y.specimen(3, 0, 0)), PLACE.getName());
            due("the kind holds", thrownBy(x, y -> y.keep(3, 0, 0)), NOT_TAKEN.getName());
            due("there is room again", x.keep(3, 3, 0), 1);
            x.open(3, 0);
            due("another kind", x.keep(3, 0, 0), 1);
            due("the first specimen is the new one", x.specimen(3, 0, 0), 0);
        });
        test(29, "`drawer`: the drawer, 0 to 3", () -> {
            for (int d = 0; d < 4; d++) {
                LotInspector x = new LotInspector();
                x.raw(0, 0, 1);
                x.open(d, 1);
                for (int other = 0; other < 4; other++) {
                    int drawer = other;
                    due("the drawer " + other, thrownBy(x, y -> y.keep(drawer, 0, 0)),
                            other == d ? NOT_TAKEN.getName() : "nothing");
                }
            }
        });
        test(29, "`kind`: the kind, 0 to 2", () -> {
            LotInspector x = repairedTwice(8);
            x.raw(4, 0, 1);
            x.raw(0, 0, 1);
            String[] taken = {"nothing nothing nothing ", "nothing nothing " + NOT_TAKEN.getName() + " ",
                "nothing " + NOT_TAKEN.getName() + " " + NOT_TAKEN.getName() + " "};
            for (int kind = 0; kind < 3; kind++) {
                x.open(1, kind);
                StringBuilder thrown = new StringBuilder();
                for (int lot = 3; lot < 6; lot++) {
                    int from = lot;
                    thrown.append(thrownBy(x, y -> y.keep(1, from, 0))).append(' ');
                }
                due("repaired twice, bad and good in a drawer of the kind " + kind, thrown.toString(), taken[kind]);
            }
        });
        test(29, "Returns the number of specimens that it had.", () -> {
            LotInspector x = busy();
            due("five", x.open(3, 2), 5);
            due("none", x.open(3, 0), 0);
            due("one", x.open(0, 0), 1);
            due("none ever", new LotInspector().open(2, 2), 0);
        });
        test(29, "Throws `IndexOutOfBoundsException` if there is no such drawer", () -> {
            for (int n : beside(0, 3)) {
                refused("open(" + n + ", 0)", PLACE, Offices::busy, x -> x.open(n, 0));
                refused("open(" + n + ", 3), the place first", PLACE, Offices::busy, x -> x.open(n, 3));
            }
        });
        test(29, "Throws `IllegalArgumentException` if there is no such kind", () -> {
            for (int n : beside(0, 2)) {
                refused("open(3, " + n + ")", NUMBER, Offices::busy, x -> x.open(3, n));
            }
        });
    }

    private static void keep() {
        test(30, "Keeps a specimen of a unit in a drawer, behind those that it has.", () -> {
            LotInspector x = office();
            x.raw(0, 0, 5);
            for (int u = 4; u >= 0; u--) {
                x.keep(0, 0, u);
            }
            for (int i = 0; i < 5; i++) {
                due("specimen(0, " + i + ", 1)", x.specimen(0, i, 1), 4 - i);
            }
            due("the unit stays", x.unit(0, 4, 0), 0);
        });
        test(30, "`drawer`: the drawer", () -> {
            LotInspector x = new LotInspector();
            x.raw(0, 0, 4);
            for (int d = 0; d < 4; d++) {
                due("keep(" + d + ", 0, " + d + ")", x.keep(d, 0, d), 1);
            }
            for (int d = 0; d < 4; d++) {
                due("specimen(" + d + ", 0, 1)", x.specimen(d, 0, 1), d);
            }
        });
        test(30, "`lot`: the lot", () -> {
            LotInspector x = office();
            x.raw(1, 0, 1);
            x.raw(2, 0, 1);
            x.keep(0, 1, 0);
            x.keep(0, 0, 0);
            due("of the lot 1", x.specimen(0, 0, 2), 2);
            due("of the lot 0", x.specimen(0, 1, 2), 1);
        });
        test(30, "`unit`: the unit, in whatever state", () -> {
            LotInspector x = busy();
            x.open(3, 0);
            due("here", x.keep(3, 0, 2), 1);
            due("set aside", x.keep(3, 3, setAsideOf(x)), 2);
            due("scrapped", x.keep(3, 7, 1), 3);
            due("used", x.keep(3, 0, 0), 4);
            due("shipped", x.keep(3, 4, 1), 5);
        });
        test(30, "Returns the number of specimens of the drawer then.", () -> {
            LotInspector x = busy();
            due("second", x.keep(0, 1, 1), 2);
            due("the same unit once more", x.keep(0, 1, 1), 3);
            due("of another drawer", x.keep(1, 3, 1), 2);
        });
    }

    private static int setAsideOf(LotInspector x) {
        for (int u = 0; u < 3; u++) {
            if (x.unit(3, u, 0) == 1) {
                return u;
            }
        }
        return -1;
    }

    private static void keepRefused() {
        test(30, "Throws `IndexOutOfBoundsException` if there is no such drawer, lot or unit", () -> {
            for (int n : beside(0, 3)) {
                refused("keep(" + n + ", 0, 0)", PLACE, Offices::busy, x -> x.keep(n, 0, 0));
            }
            for (int n : beside(0, 7)) {
                refused("keep(0, " + n + ", 0)", PLACE, Offices::busy, x -> x.keep(0, n, 0));
                refused("keep(3, " + n + ", 0) into a full drawer, the place first", PLACE, Offices::busy,
                        x -> x.keep(3, n, 0));
            }
            for (int n : beside(0, 2)) {
                refused("keep(0, 0, " + n + ")", PLACE, Offices::busy, x -> x.keep(0, 0, n));
                refused("keep(3, 0, " + n + ") into a full drawer, the place first", PLACE, Offices::busy,
                        x -> x.keep(3, 0, n));
            }
        });
        test(30, "Throws `IllegalStateException` if the drawer has 5 specimens", () -> {
            refused("keep(3, 0, 0)", STATE, Offices::busy, x -> x.keep(3, 0, 0));
            due("a fifth of bad units", fullOfBad().specimen(1, 4, 0), 3);
            refused("a sixth of bad units", STATE, Offices::fullOfBad, x -> x.keep(1, 3, 0));
            refused("a good unit into a full drawer of bad ones, the state first", STATE, Offices::fullOfBad,
                    x -> x.keep(1, 0, 0));
        });
        test(30, "Throws `UnsupportedOperationException` if the drawer does not take the unit", () -> {
            refused("a good unit, the kind 1", NOT_TAKEN, Offices::busy, x -> x.keep(1, 0, 0));
            refused("a good unit, the kind 2", NOT_TAKEN, Offices::busy, x -> x.keep(2, 0, 0));
            refused("a bad unit, the kind 2", NOT_TAKEN, Offices::busy, x -> x.keep(2, 3, 0));
        });
    }

    private static void specimen() {
        test(31, "Returns a number of a specimen.", () -> {
            LotInspector x = busy();
            due("specimen(1, 0, 0)", x.specimen(1, 0, 0), 3);
            due("specimen(1, 0, 0) again", x.specimen(1, 0, 0), 3);
        });
        test(31, "`drawer`: the drawer", () -> {
            LotInspector x = busy();
            due("of the drawer 0", x.specimen(0, 0, 0), 1);
            due("of the drawer 1", x.specimen(1, 0, 0), 3);
        });
        test(31, "`index`: the index of the specimen, from 0", () -> {
            LotInspector x = busy();
            int[] lots = {0, 1, 2, 0, 1};
            int[] units = {0, 1, 0, 1, 0};
            for (int i = 0; i < 5; i++) {
                due("specimen(3, " + i + ", 0)", x.specimen(3, i, 0), lots[i]);
                due("specimen(3, " + i + ", 1)", x.specimen(3, i, 1), units[i]);
            }
        });
        test(31, "`what`: 0 the lot; 1 the unit; 2 the set of defects; 3 the number of repairs", () -> {
            LotInspector x = repairedTwice(8);
            x.keep(2, 3, 1);
            int[] due = {3, 1, 8, 2};
            for (int what = 0; what < 4; what++) {
                due("specimen(2, 0, " + what + ")", x.specimen(2, 0, what), due[what]);
            }
        });
        test(31, "Returns the number, as it was when the specimen was kept.", () -> {
            LotInspector x = repairedTwice(8);
            x.keep(2, 3, 1);
            x.product(0, 0, 8, 8);
            x.undo();
            x.undo();
            x.undo();
            due("the repairs of the unit now", x.unit(3, 1, 2), 1);
            due("the repairs of the specimen", x.specimen(2, 0, 3), 2);
        });
        test(31, "Throws `IndexOutOfBoundsException` if there is no such drawer or specimen", () -> {
            for (int n : beside(0, 3)) {
                refused("specimen(" + n + ", 0, 0)", PLACE, Offices::busy, x -> x.specimen(n, 0, 0));
                refused("specimen(" + n + ", 0, 4), the place first", PLACE, Offices::busy, x -> x.specimen(n, 0, 4));
            }
            for (int n : beside(0, 4)) {
                refused("specimen(3, " + n + ", 0) of five", PLACE, Offices::busy, x -> x.specimen(3, n, 0));
                refused("specimen(3, " + n + ", 4), the place first", PLACE, Offices::busy, x -> x.specimen(3, n, 4));
            }
            refused("specimen(0, 1, 0) of one", PLACE, Offices::busy, x -> x.specimen(0, 1, 0));
            refused("specimen(2, 0, 0) of none", PLACE, Offices::busy, x -> x.specimen(2, 0, 0));
        });
        test(31, "Throws `IllegalArgumentException` if what is not 0 to 3", () -> {
            for (int n : beside(0, 3)) {
                refused("specimen(3, 4, " + n + ")", NUMBER, Offices::busy, x -> x.specimen(3, 4, n));
            }
        });
    }
}

import java.util.function.Supplier;

/** Changes, undoing and saving, and the promises 37 to 40. */
final class ChangeSentences extends Offices {
    static void all() {
        changes();
        eight();
        stays();
        gone();
        undo();
        undoneCalls();
        descents();
        save();
        restore();
        count();
        countUnits();
    }

    /** An office with something of everything, but without changes that can be undone. */
    private static LotInspector settled() {
        LotInspector x = quiet();
        x.save();
        x.restore();
        return x;
    }

    private static LotInspector settledStop() {
        LotInspector x = stopped();
        x.save();
        x.restore();
        return x;
    }

    /** The call is one change, and undoing it brings all back. */
    private static void changes(String call, Call change) {
        changes(ChangeSentences::settled, call, change);
    }

    private static void changes(Supplier<LotInspector> start, String call, Call change) {
        LotInspector x = start.get();
        change.on(x);
        due(call + ", count(4)", x.count(4), 1);
        due(call + ", undo()", x.undo(), 0);
        due(call + " undone", States.withoutText(x), States.withoutText(start.get()));
    }

    private static void changesNothing(String call, Call other) {
        LotInspector x = settled();
        x.seed(3);
        thrownBy(x, other);
        due("count(4) after " + call, x.count(4), 1);
        x.undo();
        due("the seed that comes back after " + call, x.count(6), 7);
    }

    private static void changes() {
        test(37, "Changes. A call of machine, product, raw, make, inspect, sort, ship, release, seed, complain or run that "
                + "throws no exception is a change, also if nothing changes by it.", () -> {
            changes("machine(1, 9, 2)", x -> x.machine(1, 9, 2));
            changes("machine(1, 1, 0), as it is", x -> x.machine(1, 1, 0));
            changes("product(2, 9, 2, 4)", x -> x.product(2, 9, 2, 4));
            changes("product(2, 7, 1, 1), as it is", x -> x.product(2, 7, 1, 1));
            changes("raw(1, 0, 3)", x -> x.raw(1, 0, 3));
            changes("make(1, 0, 1, 0, 1, -1)", x -> x.make(1, 0, 1, 0, 1, -1));
            changes("inspect(6)", x -> x.inspect(6));
            changes("sort(3)", x -> x.sort(3));
            changes("ship(1)", x -> x.ship(1));
            changes(ChangeSentences::settledStop, "release(0)", x -> x.release(0));
            changes("seed(4)", x -> x.seed(4));
            changes("seed(7), as it is", x -> x.seed(7));
            changes("complain(4, 1)", x -> x.complain(4, 1));
            changes("run()", x -> {
                type(x, "seed:9;raw:0,0,3;inspect:8;sort:3;ship:1;");
                x.run();
            });
        });
        test(37, "A call of machine, product, raw, make, inspect, sort, ship, release, seed, complain or run that throws no "
                + "exception is a change", () -> {
            changesNothing("machine(6, 0, 0)", x -> x.machine(6, 0, 0));
            changesNothing("product(0, 31, 0, 0)", x -> x.product(0, 31, 0, 0));
            changesNothing("raw(0, 0, 201)", x -> x.raw(0, 0, 201));
            changesNothing("make(0, 0, 1, 3, -1, -1)", x -> x.make(0, 0, 1, 3, -1, -1));
            changesNothing("inspect(0)", x -> x.inspect(0));
            changesNothing("sort(0)", x -> x.sort(0));
            changesNothing("ship(3)", x -> x.ship(3));
            changesNothing("release(0)", x -> x.release(0));
            changesNothing("seed(-1)", x -> x.seed(-1));
            changesNothing("complain(4, 0)", x -> x.complain(4, 0));
            changesNothing("run() of no text", LotInspector::run);
            changesNothing("run() of a command that throws", x -> {
                type(x, "seed:4;seed:5;ship:3;");
                x.run();
            });
            changesNothing("open(0, 0)", x -> x.open(0, 0));
            changesNothing("keep(0, 0, 0)", x -> x.keep(0, 0, 0));
            changesNothing("append('a')", x -> x.append('a'));
            changesNothing("report(0)", x -> x.report(0));
            changesNothing("save()", LotInspector::save);
            changesNothing("afterwards(0, 1, 0)", x -> x.afterwards(0, 1, 0));
            changesNothing("chance(0, 0)", x -> x.chance(0, 0));
            changesNothing("recalled(0, 0)", x -> x.recalled(0, 0));
        });
    }

    private static void eight() {
        test(37, "The latest 8 changes can be undone, the latest first.", () -> {
            LotInspector x = new LotInspector();
            for (int i = 1; i <= 20; i++) {
                x.seed(100 + i);
                due("count(4) after " + i, x.count(4), Math.min(i, 8));
            }
            for (int i = 7; i >= 0; i--) {
                due("undo()", x.undo(), i);
                due("the seed then", x.count(6), 112 + i);
            }
            due("a ninth throws", thrownBy(x, LotInspector::undo), STATE.getName());
            due("the seed stays", x.count(6), 112);
        });
        test(37, "the latest first.", () -> {
            LotInspector x = new LotInspector();
            // More than twice around: five changes and two steps back, time and again.
            int top = 1;
            for (int round = 0; round < 6; round++) {
                for (int i = 0; i < 5; i++) {
                    top = 1000 * round + 10 * i;
                    x.seed(top);
                }
                x.undo();
                x.undo();
                due("the seed in round " + round, x.count(6), 1000 * round + 20);
            }
            int[] back = {5010, 5000, 4020, 4010, 4000, 3020};
            due("as many as of the latest eight were not undone", x.count(4), back.length);
            for (int i = 0; i < back.length; i++) {
                due("undo()", x.undo(), back.length - 1 - i);
                due("the seed then", x.count(6), back[i]);
            }
            due("no more", thrownBy(x, LotInspector::undo), STATE.getName());
        });
    }

    private static void stays() {
        test(37, "Drawers, the buffer, the error position, reports and what was saved do not go back.", () -> {
            LotInspector x = office();
            x.raw(1, 0, 3);
            x.save();
            x.seed(44);
            x.open(2, 1);
            x.keep(0, 0, 2);
            type(x, "seed:x");
            thrownBy(x, LotInspector::run);
            type(x, "abc");
            x.report(0);
            x.undo();
            x.undo();
            due("no lots", x.count(0), 0);
            due("the drawer's specimen", x.specimen(0, 0, 1), 2);
            due("the buffer", x.count(5), 3);
            due("the error position", x.errorPosition(), 5);
            due("the report", x.character(4), '0');
            due("what was saved", x.restore(), 1);
            due("the drawer's kind", thrownBy(x, y -> {
                y.product(0, 5, 0, 0);
                y.keep(2, 0, 0);
            }), NOT_TAKEN.getName());
        });
        test(37, "The latest 8 changes can be undone", () -> {
            LotInspector x = new LotInspector();
            type(x, "seed:5;seed:6;");
            x.run();
            type(x, "seed:7;");
            x.undo();
            due("a run is undone as one", x.count(6), 1);
            due("the buffer has what was appended since", x.count(5), 7);
            due("and the error position is that of the run", x.errorPosition(), -1);
        });
    }

    private static void dueNoLot(String when, Supplier<LotInspector> start) {
        Call[] calls = {x -> x.lot(1, 0), x -> x.units(1, 0), x -> x.unit(1, 0, 0), x -> x.chance(1, 0),
            x -> x.madeOf(1, 0, 0), x -> x.whereabouts(1, 0), x -> x.trace(1, 0, 0, true), x -> x.recall(1),
            x -> x.recalled(1, 0), x -> x.inspect(1), x -> x.sort(1), x -> x.ship(1), x -> x.complain(1, 0),
            x -> x.make(0, 0, 1, 1, -1, -1), x -> x.make(0, 0, 1, 0, 1, -1), x -> x.keep(0, 1, 0), x -> x.report(1)};
        for (int i = 0; i < calls.length; i++) {
            due(when + ", call " + i + " throws", thrownBy(start.get(), calls[i]), PLACE.getName());
        }
        LotInspector x = start.get();
        due(when + ", count(0)", x.count(0), 1);
        due(when + ", count(1)", x.count(1), 3);
        due(when + ", count(10)", x.count(10), 3);
        due(when + ", recall(0)", x.recall(0), 1);
    }

    /** One lot, accepted, of three bad units; another one was made of it and is gone. */
    private static LotInspector oneIsGone(Call going) {
        LotInspector x = office();
        blindLot(x, 1, 3);
        x.save();
        going.on(x);
        return x;
    }

    private static void makeSecond(LotInspector x) {
        x.make(2, 3, 2, 0, -1, -1);
        x.inspect(1);
    }

    private static void gone() {
        test(37, "Undoes the latest change", () -> dueNoLot("undone", () -> oneIsGone(x -> {
            makeSecond(x);
            x.undo();
            x.undo();
        })));
        test(39, "Restores what was saved,", () -> dueNoLot("restored", () -> oneIsGone(x -> {
            makeSecond(x);
            x.restore();
        })));
        test(33, "and none of the commands has an effect.", () -> dueNoLot("a run that threw", () -> oneIsGone(x -> {
            type(x, "make:2,3,2,0;inspect:1;sort:1;");
            thrownBy(x, LotInspector::run);
        })));
    }

    private static void undo() {
        test(37, "Undoes the latest change that was not undone.", () -> {
            LotInspector x = new LotInspector();
            x.seed(10);
            x.seed(11);
            x.seed(12);
            x.undo();
            due("the first", x.count(6), 11);
            x.undo();
            due("the one before", x.count(6), 10);
            x.seed(13);
            x.undo();
            due("a new one", x.count(6), 10);
            x.undo();
            due("then the first of all", x.count(6), 1);
        });
        test(37, "Returns the number of changes that can still be undone.", () -> {
            LotInspector x = new LotInspector();
            x.seed(10);
            x.seed(11);
            due("one is left", x.undo(), 1);
            due("none is left", x.undo(), 0);
            LotInspector y = quiet();
            due("seven of many", y.undo(), 7);
            y.seed(1);
            due("seven again", y.undo(), 7);
            due("six", y.undo(), 6);
        });
        test(37, "Throws `IllegalStateException` if there is none", () -> {
            refused("a new object", STATE, LotInspector::new, LotInspector::undo);
            refused("all undone", STATE, ChangeSentences::allUndone, LotInspector::undo);
            refused("restored", STATE, ChangeSentences::settled, LotInspector::undo);
        });
    }

    private static LotInspector allUndone() {
        LotInspector x = office();
        while (x.count(4) > 0) {
            x.undo();
        }
        return x;
    }

    private static void undoneCalls() {
        test(37, "Undoes the latest change", () -> {
            LotInspector x = office();
            x.product(0, 0, 15, 1);
            x.raw(1, 0, 8);
            x.inspect(0);
            x.sort(0);
            x.undo();
            due("sorting", x.units(0, 1) * 100 + x.count(2) * 10 + x.blame(1, 0), 202);
            due("the defects", x.unit(0, 0, 1), 1);
            x.undo();
            due("inspecting", x.units(0, 1) + x.lot(0, 3) + x.policy(0, 5) + x.blame(1, 0), 0);
            due("the seed", x.count(6), 1);
            due("the share", thrownBy(x, y -> y.foundShare(0)), SHARE.getName());
            x.undo();
            due("making", x.count(0) + x.worked(1), 0);
            due("another lot in its place", x.raw(0, 2, 3), 0);
            due("which has nothing of it", x.unit(0, 0, 1) + x.units(0, 1) + x.lot(0, 3), 0);
        });
    }

    /**
     * Lot 0 of the machine 1 was repaired: the seventh repair left its unit 6 a defect. The lots 1 and 3 have a unit
     * that contains it; lot 2 is made of the last unit of lot 0 and the first one of lot 1.
     */
    private static LotInspector descended() {
        LotInspector x = office();
        x.product(3, 0, 0, 0);
        x.product(0, 0, 15, 1);
        x.raw(1, 0, 8);
        x.inspect(0);
        x.sort(0);
        x.product(0, 0, 0, 0);
        x.inspect(0);
        x.make(2, 3, 7, 0, -1, -1);
        x.inspect(1);
        x.make(5, 3, 1, 0, 1, -1);
        x.make(3, 3, 6, 1, -1, -1);
        return x;
    }

    /** What the States leave out of one unit of each lot: what it is made of, and its defects' causes and origins. */
    private static void dueDescent(String when, LotInspector x) {
        int[] units = {6, 6, 0, 5};
        String[] due = {"0 1 15: 6@6", "1 2 14: 6 2@1006 6@6", "2 5 4: 7 1000 2@1000",
            "1 3 8: 1006 2@1006 3@3005 6@6"};
        for (int lot = 0; lot < due.length; lot++) {
            due(when + ", the lot " + lot, descent(x, lot, units[lot]), due[lot]);
        }
    }

    private static String descent(LotInspector x, int lot, int unit) {
        int parts = x.lot(lot, 8);
        StringBuilder text = new StringBuilder();
        text.append(parts).append(' ').append(x.lot(lot, 9)).append(' ').append(x.recall(lot)).append(':');
        for (int part = 0; part < parts; part++) {
            text.append(' ').append(x.madeOf(lot, unit, part));
        }
        int defects = x.unit(lot, unit, 1);
        for (int kind = 0; kind < 4; kind++) {
            if ((defects >> kind & 1) == 1) {
                text.append(' ').append(x.trace(lot, unit, kind, true));
                text.append('@').append(x.trace(lot, unit, kind, false));
            }
        }
        return text.toString();
    }

    private static void descents() {
        test(37, "Undoes the latest change", () -> {
            LotInspector x = descended();
            dueDescent("ahead of the changes", x);
            x.machine(2, 5, 2);
            x.raw(0, 0, 9);
            x.undo();
            x.undo();
            dueDescent("after undoing two", x);
            x.undo();
            x.make(3, 3, 6, 1, -1, -1);
            dueDescent("when the last lot is made again", x);
        });
        test(39, "Restores what was saved,", () -> {
            LotInspector x = descended();
            x.save();
            for (int i = 0; i < 5; i++) {
                x.undo();
            }
            x.raw(5, 1, 8);
            x.raw(5, 1, 8);
            x.restore();
            dueDescent("after other lots", x);
        });
    }

    private static void save() {
        test(38, "Saves the machines, products, lots, blame, complaints, repairs and the seed, in place of what was saved "
                + "before.", () -> {
            LotInspector x = quiet();
            x.save();
            x.seed(99);
            x.machine(1, 7, 2);
            x.product(2, 9, 8, 8);
            x.raw(1, 0, 5);
            x.inspect(8);
            x.sort(3);
            x.complain(4, 1);
            x.ship(0);
            x.restore();
            due("all of them", States.of(x), States.of(settled()));
        });
        test(38, "in place of what was saved before.", () -> {
            LotInspector x = office();
            x.raw(0, 0, 1);
            x.save();
            x.raw(0, 0, 1);
            x.save();
            x.raw(0, 0, 1);
            due("the later one", x.restore(), 2);
        });
        test(38, "Returns the number of lots.", () -> {
            LotInspector x = new LotInspector();
            due("none", x.save(), 0);
            x.raw(0, 0, 1);
            due("one", x.save(), 1);
            due("24", full().save(), 24);
            due("no change", x.count(4), 1);
        });
    }

    private static void restore() {
        test(39, "Restores what was saved, which stays saved.", () -> {
            LotInspector x = quiet();
            x.save();
            for (int i = 0; i < 3; i++) {
                x.sort(3);
                x.inspect(6);
                x.raw(2, 0, 9);
                x.restore();
            }
            due("after three times", States.of(x), States.of(settled()));
            LotInspector y = new LotInspector();
            y.save();
            y.raw(0, 0, 1);
            due("an office without lots", y.restore(), 0);
            due("its machines", y.worked(0), 0);
        });
        test(39, "No change can be undone then.", () -> {
            LotInspector x = office();
            x.save();
            x.seed(5);
            x.restore();
            due("count(4)", x.count(4), 0);
            due("undo() throws", thrownBy(x, LotInspector::undo), STATE.getName());
            x.seed(6);
            due("later ones can be", x.undo(), 0);
            due("the seed then", x.count(6), 1);
            for (int i = 0; i < 5; i++) {
                x.seed(20 + i);
            }
            x.restore();
            for (int i = 0; i < 10; i++) {
                x.seed(30 + i);
            }
            for (int i = 7; i >= 0; i--) {
                due("eight later ones", x.undo(), i);
                due("the seed then", x.count(6), 31 + i);
            }
        });
        test(39, "Returns the number of lots.", () -> {
            LotInspector x = full();
            x.save();
            x.undo();
            x.undo();
            due("24", x.restore(), 24);
        });
        test(39, "Throws `IllegalStateException` if nothing was saved", () -> {
            refused("a new object", STATE, LotInspector::new, LotInspector::restore);
            refused("an office with lots", STATE, Offices::family, LotInspector::restore);
        });
        test(38, "Saves the machines, products, lots", () -> {
            LotInspector x = quiet();
            x.save();
            type(x, "abc");
            x.keep(0, 0, 0);
            x.open(3, 1);
            x.report(5);
            x.restore();
            due("the buffer is none of them", x.count(5), 3);
            due("nor the drawers", x.specimen(0, 1, 0) * 10 + x.open(3, 0), 0);
            due("nor the report", x.character(4), '5');
            due("nor the error position", x.errorPosition(), 0);
        });
    }

    private static void count() {
        test(40, "Returns a count.", () -> {
            LotInspector x = busy();
            due("count(0)", x.count(0), 8);
            due("count(0) again", x.count(0), 8);
        });
        test(40, "`what`: 0 the lots; 1 the units of all lots; 2 the repairs of the office; 3 the complaints; 4 the changes "
                + "that can be undone; 5 the characters in the buffer; 6 the seed; 10 + s the units of all lots in the "
                + "state s", () -> {
            LotInspector x = busy();
            int[] due = {8, 20, 3, 1, 8, 7, 7};
            for (int what = 0; what < due.length; what++) {
                due("count(" + what + ")", x.count(what), due[what]);
            }
            int[] inState = {8, 2, 2, 4, 4};
            for (int s = 0; s < inState.length; s++) {
                due("count(" + (10 + s) + ")", x.count(10 + s), inState[s]);
            }
            for (int what = 0; what < 15; what++) {
                if (what < 7 || what > 9) {
                    due("a new object, count(" + what + ")", new LotInspector().count(what), what == 6 ? 1 : 0);
                }
            }
        });
    }

    private static void countUnits() {
        test(40, "Returns the count.", () -> {
            LotInspector x = office();
            for (int i = 0; i < 24; i++) {
                x.raw(0, 0, 200);
            }
            due("count(0)", x.count(0), 24);
            due("count(1)", x.count(1), 4800);
            due("count(10)", x.count(10), 4800);
        });
        test(40, "Throws `IllegalArgumentException` if what is none of these", () -> {
            for (int n : new int[] {-1, 7, 8, 9, 15, 16, 64, MIN, MIN + 10, MAX, MAX - 4}) {
                refused("count(" + n + ")", NUMBER, Offices::busy, x -> x.count(n));
            }
        });
    }
}

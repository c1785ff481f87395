/** Offices for the tests to start with. */
abstract class Offices extends Checks {
    /** Machine 0 works well; machine 1 causes a defect of the kind 0 in each unit, machine 2 of the kind 1 etc. */
    static LotInspector office() {
        LotInspector x = new LotInspector();
        for (int kind = 0; kind < 4; kind++) {
            x.machine(kind + 1, 1, kind);
        }
        return x;
    }

    /** A lot that is accepted though all its units are defective, as its product 3 is not inspected for anything. */
    static int blindLot(LotInspector x, int machine, int size) {
        x.product(3, 5, 0, 0);
        int lot = x.raw(machine, 3, size);
        x.inspect(lot);
        return lot;
    }

    /** Makes and inspects a lot of the product 0: machine 1 gets it rejected, machine 0 accepted. */
    static int inspected(LotInspector x, int machine) {
        return x.inspect(x.raw(machine, 0, 9));
    }

    /** The product 0 has had these first inspections: r is a rejected lot, a one that is accepted with none found. */
    static LotInspector after(String inspections) {
        LotInspector x = office();
        for (int i = 0; i < inspections.length(); i++) {
            inspected(x, inspections.charAt(i) == 'r' ? 1 : 0);
        }
        return x;
    }

    /** Two rejected lots get the product 0 tightened, five more get it stopped. */
    static LotInspector stopped() {
        return after("rrrrrrr");
    }

    /** An office with as many lots as there can be: the lot 0 is accepted and has nine units here. */
    static LotInspector full() {
        LotInspector x = office();
        inspected(x, 0);
        for (int lot = 1; lot < 24; lot++) {
            x.raw(0, 1, 1);
        }
        return x;
    }

    /** Lots 0 and 1 raw, 2 of 0, 3 of 2 and 1, 4 of 3; lot 5 apart. */
    static LotInspector family() {
        LotInspector x = office();
        blindLot(x, 1, 12);
        blindLot(x, 2, 12);
        x.make(0, 3, 10, 0, -1, -1);
        x.inspect(2);
        x.make(4, 3, 6, 2, 1, -1);
        x.inspect(3);
        x.make(3, 3, 4, 3, -1, -1);
        blindLot(x, 1, 5);
        return x;
    }

    /**
     * An office with something of everything. Lots 0 (good) and 1 (bad) are accepted, with one unit here that is left
     * by the lot 2, which waits; 3 is rejected; 4 (bad, its unit 0 complained of) and 5 (good) are shipped; 6 waits
     * after repairs; 7 waits with all its units scrapped. Drawer 1 takes bad units, 2 those repaired twice, 3 is full.
     */
    static LotInspector busy() {
        LotInspector x = quiet();
        type(x, "seed:5;");
        return x;
    }

    /** The same with an empty buffer. */
    static LotInspector quiet() {
        LotInspector x = office();
        blindLot(x, 0, 3);
        blindLot(x, 1, 3);
        x.make(4, 3, 2, 0, 1, -1);
        inspectedLot(x, 1, 0, 3);
        x.ship(blindLot(x, 2, 2));
        x.complain(4, 0);
        x.ship(blindLot(x, 0, 2));
        x.product(2, 7, 1, 1);
        x.sort(inspectedLot(x, 1, 2, 3));
        x.product(1, 9, 15, 0);
        x.sort(inspectedLot(x, 1, 1, 2));
        x.open(1, 1);
        x.open(2, 2);
        x.keep(0, 1, 1);
        x.keep(1, 3, 2);
        for (int unit = 0; unit < 5; unit++) {
            x.keep(3, unit % 3, unit % 2);
        }
        x.report(3);
        type(x, "?");
        thrownBy(x, LotInspector::run);
        x.save();
        x.seed(7);
        return x;
    }

    /** The same, and drawer 1 is full, too. */
    static LotInspector fullOfBad() {
        LotInspector x = busy();
        for (int i = 0; i < 4; i++) {
            x.keep(1, 3, 0);
        }
        return x;
    }

    static int inspectedLot(LotInspector x, int machine, int product, int size) {
        int lot = x.raw(machine, product, size);
        x.inspect(lot);
        return lot;
    }

    static void type(LotInspector x, String text) {
        for (int i = 0; i < text.length(); i += 4) {
            int packed = 0;
            for (int j = i; j < i + 4; j++) {
                packed = packed << 8 | (j < text.length() ? text.charAt(j) : 0);
            }
            x.append(packed);
        }
    }

    static String reportOn(LotInspector x, int lot) {
        int length = x.report(lot);
        StringBuilder text = new StringBuilder();
        for (int i = 0; i < length; i++) {
            text.append(x.character(i));
        }
        return text.toString();
    }
}

import java.util.function.Supplier;

/**
 * All that an object tells of its state: what reading tells first, then what only further changes tell. Nothing is
 * promised after the 512th call of an object, so the offices of the tests have few units.
 */
final class States {
    private final LotInspector x;
    private final StringBuilder text = new StringBuilder();

    private States(LotInspector x) {
        this.x = x;
    }

    /** The object is not to be used afterwards. */
    static String of(LotInspector x) {
        States s = new States(x);
        s.put("error", x::errorPosition);
        s.put("buffer", () -> x.count(5));
        s.rest();
        s.put("run", x::run);
        s.put("error", x::errorPosition);
        return s.text.toString();
    }

    /** The same without the buffer and the error position, which a run changes even if it throws. */
    static String withoutText(LotInspector x) {
        States s = new States(x);
        s.rest();
        return s.text.toString();
    }

    private void rest() {
        counts();
        int lots = x.count(0);
        for (int lot = 0; lot < lots; lot++) {
            lotOf(lot);
        }
        drawers();
        report();
        complaints();
        past();
    }

    private void put(String what, Supplier<Object> answer) {
        String got;
        try {
            got = String.valueOf(answer.get());
        } catch (RuntimeException e) {
            got = e.getClass().getSimpleName();
        }
        text.append(what).append('=').append(got).append(' ');
    }

    private void counts() {
        for (int what : new int[] {0, 1, 2, 3, 4, 6, 10, 11, 12, 13, 14}) {
            put("count" + what, () -> x.count(what));
        }
        for (int m = 0; m < 6; m++) {
            int machine = m;
            put("worked" + m, () -> x.worked(machine));
        }
        for (int p = 0; p < 4; p++) {
            int product = p;
            for (int w = 0; w < 7; w++) {
                int what = w;
                put("policy" + p + w, () -> x.policy(product, what));
            }
            put("found" + p, () -> x.foundShare(product));
        }
        for (int r = 0; r < 6; r++) {
            int rank = r;
            put("worst" + r, () -> x.worst(rank));
        }
        for (int c = 0; c < 7; c++) {
            int cause = c;
            put("blame" + c, () -> x.blame(cause, -1));
        }
    }

    private void lotOf(int lot) {
        for (int w = 2; w < 8; w++) {
            int what = w;
            put("lot" + lot + what, () -> x.lot(lot, what));
        }
        int units = x.lot(lot, 1);
        for (int u = 0; u < units; u++) {
            int unit = u;
            int state = x.unit(lot, u, 0);
            put("state" + lot + '/' + u, () -> state);
            put("defects", () -> x.unit(lot, unit, 1));
            put("repairs", () -> x.unit(lot, unit, 2));
            if (state == 3) {
                put("whereabouts", () -> x.whereabouts(lot, unit));
            }
        }
    }

    private void drawers() {
        for (int d = 0; d < 4; d++) {
            int drawer = d;
            for (int i = 0; i < 5; i++) {
                int index = i;
                put("specimen" + d + i, () -> 1000 * x.specimen(drawer, index, 0) + x.specimen(drawer, index, 1));
            }
            put("kind" + d, () -> x.keep(drawer, 0, 0));
        }
    }

    private void report() {
        for (int i = 0; i < 12; i++) {
            int index = i;
            put("report" + i, () -> x.character(index));
        }
    }

    private void complaints() {
        int lots = x.count(0);
        for (int lot = 0; lot < lots; lot++) {
            int number = lot;
            if (x.lot(lot, 2) == 3) {
                put("complaint" + lot, () -> x.complain(number, 0));
            }
        }
    }

    private void past() {
        for (int i = 0; i < 9; i++) {
            put("undo", x::undo);
        }
        put("seed", () -> x.count(6));
        for (int m = 0; m < 6; m++) {
            int machine = m;
            put("machine" + m, () -> x.machine(machine, 0, 0));
        }
        put("restore", x::restore);
        put("seed", () -> x.count(6));
    }
}

import java.util.ArrayDeque;
import java.util.ArrayList;
import java.util.Arrays;
import java.util.Deque;
import java.util.List;
import java.util.Map;
import java.util.NoSuchElementException;
import java.util.TreeMap;
import java.util.regex.Matcher;
import java.util.regex.Pattern;

/**
 * The document told once more, as plainly as the Java library lets one, for RandomRunsTest to compare with. It goes
 * other ways than the program where it can: causes are put down when a unit is made, containment is searched for,
 * states are copied as object trees, and texts are read by regular expressions.
 */
public final class PlainOffice {
    private static final class Unit {
        int state;
        int repairs;
        boolean complained;
        int[] madeOf = {};
        // Cause by kind, or -1 if the unit has no such defect; and the origin.
        int[] cause = {-1, -1, -1, -1};
        int[] origin = {-1, -1, -1, -1};

        Unit copy() {
            Unit c = new Unit();
            c.state = state;
            c.repairs = repairs;
            c.complained = complained;
            c.madeOf = madeOf;
            c.cause = cause.clone();
            c.origin = origin.clone();
            return c;
        }

        int defects() {
            int set = 0;
            for (int k = 0; k < 4; k++) {
                set |= cause[k] >= 0 ? 1 << k : 0;
            }
            return set;
        }

        void cause(int kind, int by, int place) {
            if (cause[kind] < 0) {
                cause[kind] = by;
                origin[kind] = place;
            }
        }
    }

    private static final class Lot {
        int product;
        int machine;
        int status;
        int[] parts = {};
        List<Unit> units = new ArrayList<>();
        List<int[]> inspections = new ArrayList<>();

        Lot copy() {
            Lot c = new Lot();
            c.product = product;
            c.machine = machine;
            c.status = status;
            c.parts = parts;
            for (Unit u : units) {
                c.units.add(u.copy());
            }
            c.inspections.addAll(inspections);
            return c;
        }

        List<Unit> in(int state) {
            List<Unit> some = new ArrayList<>();
            for (Unit u : units) {
                if (u.state == state) {
                    some.add(u);
                }
            }
            return some;
        }
    }

    private static final class State {
        int[][] machines = new int[6][3];
        int[][] products = {{5, 15, 3, 0, 0}, {5, 15, 3, 0, 0}, {5, 15, 3, 0, 0}, {5, 15, 3, 0, 0}};
        List<List<Boolean>> memories = new ArrayList<>();
        List<Lot> lots = new ArrayList<>();
        Map<Integer, Integer> blame = new TreeMap<>();
        int complaints;
        int repairs;
        long seed = 1;

        State() {
            for (int p = 0; p < 4; p++) {
                memories.add(new ArrayList<>());
            }
        }

        State copy() {
            State c = new State();
            for (int m = 0; m < 6; m++) {
                c.machines[m] = machines[m].clone();
            }
            for (int p = 0; p < 4; p++) {
                c.products[p] = products[p].clone();
                c.memories.set(p, new ArrayList<>(memories.get(p)));
            }
            for (Lot l : lots) {
                c.lots.add(l.copy());
            }
            c.blame.putAll(blame);
            c.complaints = complaints;
            c.repairs = repairs;
            c.seed = seed;
            return c;
        }
    }

    private static final String NUMBER = "(?:0|[1-9][0-9]{0,4})";
    private static final String WORDS = "machine|product|raw|make|inspect|sort|ship|release|seed";
    private static final Pattern TEXT = Pattern.compile("(?:"
            + "(?:machine|raw):" + NUMBER + "(?:," + NUMBER + "){2};"
            + "|product:" + NUMBER + "(?:," + NUMBER + "){3};"
            + "|make:" + NUMBER + "(?:," + NUMBER + "){3,5};"
            + "|(?:inspect|sort|ship|release|seed):" + NUMBER + ";)+");

    private State now = new State();
    private final Deque<State> past = new ArrayDeque<>();
    private State saved;
    private boolean isCommand;
    private final int[] drawerKinds = new int[4];
    private final List<List<int[]>> drawers = List.of(new ArrayList<>(), new ArrayList<>(), new ArrayList<>(),
            new ArrayList<>());
    private String buffer = "";
    private String written = "";
    private int error = -1;

    private static void there(boolean holds) {
        if (!holds) {
            throw new IndexOutOfBoundsException();
        }
    }

    private static void inRange(boolean holds) {
        if (!holds) {
            throw new IllegalArgumentException();
        }
    }

    private static void allowed(boolean holds) {
        if (!holds) {
            throw new IllegalStateException();
        }
    }

    private static void exists(boolean holds) {
        if (!holds) {
            throw new NoSuchElementException();
        }
    }

    private static boolean within(int number, int least, int most) {
        return least <= number && number <= most;
    }

    private Lot lotOf(int number) {
        there(within(number, 0, now.lots.size() - 1));
        return now.lots.get(number);
    }

    private Unit unitOf(int lot, int unit) {
        there(within(unit, 0, lotOf(lot).units.size() - 1));
        return lotOf(lot).units.get(unit);
    }

    private void change() {
        if (!isCommand) {
            past.push(now.copy());
            if (past.size() > 8) {
                past.removeLast();
            }
        }
    }

    private boolean bad(Lot lot, Unit unit) {
        return (unit.defects() & now.products[lot.product][1]) != 0;
    }

    public int machine(int machine, int period, int kind) {
        there(within(machine, 0, 5));
        inRange(within(period, 0, 50) && within(kind, 0, 3));
        change();
        int[] m = now.machines[machine];
        int before = m[0] * 10 + m[1];
        m[0] = period;
        m[1] = kind;
        return before;
    }

    public int worked(int machine) {
        there(within(machine, 0, 5));
        return now.machines[machine][2];
    }

    public int product(int product, int limit, int inspected, int repairable) {
        there(within(product, 0, 3));
        inRange(within(limit, 0, 30) && within(inspected, 0, 15) && within(repairable, 0, 15));
        change();
        int[] p = now.products[product];
        int before = p[0];
        p[0] = limit;
        p[1] = inspected;
        p[2] = repairable;
        return before;
    }

    public int policy(int product, int what) {
        there(within(product, 0, 3));
        inRange(within(what, 0, 6));
        List<Boolean> memory = now.memories.get(product);
        return what == 5 ? memory.size() : what == 6 ? rejections(memory) : now.products[product][what];
    }

    private static int rejections(List<Boolean> memory) {
        int n = 0;
        for (boolean rejected : memory) {
            n += rejected ? 1 : 0;
        }
        return n;
    }

    private static int band(int units) {
        return units <= 8 ? 0 : units <= 15 ? 1 : units <= 25 ? 2 : units <= 50 ? 3 : units <= 90 ? 4
                : units <= 150 ? 5 : 6;
    }

    private static int size(int units, int severity) {
        int[] sizes = {2, 3, 5, 8, 13, 20, 32};
        int band = severity == 2 ? Math.max(0, band(units) - 2) : band(units);
        return Math.min(units, sizes[band]);
    }

    private int allowedFor(int product, int size, int severity) {
        int q = size * now.products[product][0] / 100;
        return severity == 0 ? q : severity == 1 ? Math.max(0, q - 1) : q + 1;
    }

    public int table(int product, int units, int severity, boolean isSize) {
        there(within(product, 0, 3));
        inRange(within(units, 1, 200) && within(severity, 0, 2));
        return isSize ? size(units, severity) : allowedFor(product, size(units, severity), severity);
    }

    public int afterwards(int product, int found, int allowed) {
        there(within(product, 0, 3));
        inRange(within(found, 0, 200) && within(allowed, 0, 200));
        allowed(now.products[product][3] != 3);
        State real = now;
        now = real.copy();
        switchOver(product, found, allowed);
        int severity = now.products[product][3];
        now = real;
        return severity;
    }

    private void severity(int product, int severity) {
        now.products[product][3] = severity;
        now.products[product][4] = 0;
        now.memories.get(product).clear();
    }

    private void switchOver(int product, int found, int allowed) {
        List<Boolean> memory = now.memories.get(product);
        int[] p = now.products[product];
        boolean rejected = found > allowed;
        memory.add(rejected);
        List<Boolean> latest = memory.subList(Math.max(0, memory.size() - 5), memory.size());
        if (p[3] == 0) {
            if (rejected && rejections(latest) >= 2) {
                severity(product, 1);
            } else if (!rejected && found * 2 <= allowed) {
                p[4] += 3;
                if (p[4] == 15) {
                    severity(product, 2);
                }
            } else {
                p[4] = 0;
            }
        } else if (p[3] == 1) {
            if (!rejected && memory.size() >= 5 && rejections(latest) == 0) {
                severity(product, 0);
            } else if (rejected && rejections(memory) == 5) {
                severity(product, 3);
            }
        } else if (p[3] == 2 && (rejected || found == allowed)) {
            severity(product, 0);
        }
    }

    public int release(int product) {
        there(within(product, 0, 3));
        allowed(now.products[product][3] == 3);
        change();
        severity(product, 1);
        int n = 0;
        for (Lot l : now.lots) {
            n += l.product == product && l.status == 0 ? 1 : 0;
        }
        return n;
    }

    public int seed(int seed) {
        inRange(seed >= 0);
        change();
        int before = (int) now.seed;
        now.seed = seed;
        return before;
    }

    private void work(int machine, Unit unit, int place) {
        int[] m = now.machines[machine];
        m[2]++;
        if (m[0] != 0 && m[2] % m[0] == 0) {
            unit.cause(m[1], machine, place);
        }
    }

    public int raw(int machine, int product, int size) {
        there(within(machine, 0, 5) && within(product, 0, 3));
        inRange(within(size, 1, 200));
        allowed(now.lots.size() < 24);
        change();
        Lot lot = new Lot();
        lot.product = product;
        lot.machine = machine;
        for (int i = 0; i < size; i++) {
            Unit u = new Unit();
            lot.units.add(u);
            work(machine, u, now.lots.size() * 1000 + i);
        }
        now.lots.add(lot);
        return now.lots.size() - 1;
    }

    public int make(int machine, int product, int size, int first, int second, int third) {
        there(within(machine, 0, 5) && within(product, 0, 3) && within(first, 0, now.lots.size() - 1)
                && within(second, -1, now.lots.size() - 1) && within(third, -1, now.lots.size() - 1));
        inRange(within(size, 1, 200));
        inRange(first != second && first != third && (second == -1 || second != third));
        inRange(third == -1 || second != -1);
        int[] parts = second == -1 ? new int[] {first} : third == -1 ? new int[] {first, second}
                : new int[] {first, second, third};
        allowed(now.lots.size() < 24);
        for (int p : parts) {
            allowed(now.lots.get(p).status == 1 && now.lots.get(p).in(0).size() >= size);
        }
        change();
        Lot lot = new Lot();
        lot.product = product;
        lot.machine = machine;
        lot.parts = parts;
        int number = now.lots.size();
        for (int i = 0; i < size; i++) {
            Unit u = new Unit();
            u.madeOf = new int[parts.length];
            for (int j = 0; j < parts.length; j++) {
                Lot part = now.lots.get(parts[j]);
                Unit used = part.in(0).get(0);
                used.state = 3;
                u.madeOf[j] = parts[j] * 1000 + part.units.indexOf(used);
                for (int k = 0; k < 4; k++) {
                    if (used.cause[k] >= 0) {
                        u.cause(k, used.cause[k], used.origin[k]);
                    }
                }
            }
            lot.units.add(u);
            work(machine, u, number * 1000 + i);
        }
        now.lots.add(lot);
        return number;
    }

    private int draw(int n) {
        now.seed = (now.seed * 1103515245L + 12345L) % 2147483648L;
        return (int) (now.seed / 65536L % n);
    }

    private void blame(Unit u, int kinds) {
        for (int k = 0; k < 4; k++) {
            if ((kinds >> k & 1) == 1 && u.cause[k] >= 0) {
                now.blame.merge(u.cause[k] * 10 + k, 1, Integer::sum);
            }
        }
    }

    public int inspect(int lot) {
        Lot l = lotOf(lot);
        int[] p = now.products[l.product];
        List<Unit> left = l.in(0);
        allowed(l.status == 0 && !left.isEmpty() && p[3] != 3);
        change();
        p = now.products[l.product];
        boolean first = l.inspections.isEmpty();
        int severity = first ? p[3] : 1;
        int sample = size(left.size(), severity);
        int allowed = allowedFor(l.product, sample, severity);
        int found = 0;
        for (int i = 0; i < sample; i++) {
            Unit u = left.remove(draw(left.size()));
            if (bad(l, u)) {
                found++;
                u.state = 1;
                blame(u, p[1]);
            }
        }
        l.inspections.add(new int[] {severity, sample, allowed, found});
        l.status = found > allowed ? 2 : 1;
        if (first) {
            switchOver(l.product, found, allowed);
        }
        return found;
    }

    public int sort(int lot) {
        Lot l = lotOf(lot);
        allowed(l.status == 2);
        change();
        int[] p = now.products[l.product];
        int scrapped = 0;
        for (Unit u : l.units) {
            if (u.state == 0 && bad(l, u)) {
                blame(u, p[1]);
                u.state = 1;
            }
            if (u.state != 1) {
                continue;
            }
            if ((u.defects() & p[1] & ~p[2]) == 0 && u.repairs < 2) {
                for (int k = 0; k < 4; k++) {
                    u.cause[k] = (p[2] >> k & 1) == 1 ? -1 : u.cause[k];
                }
                u.repairs++;
                u.state = 0;
                if (++now.repairs % 7 == 0) {
                    u.cause(3, 6, lot * 1000 + l.units.indexOf(u));
                }
            } else {
                u.state = 2;
                scrapped++;
            }
        }
        l.status = 0;
        return scrapped;
    }

    public int ship(int lot) {
        Lot l = lotOf(lot);
        List<Unit> here = l.in(0);
        allowed(l.status == 1 && !here.isEmpty());
        change();
        for (Unit u : here) {
            u.state = 4;
        }
        l.status = 3;
        return here.size();
    }

    public int complain(int lot, int unit) {
        Unit u = unitOf(lot, unit);
        allowed(u.state == 4 && !u.complained);
        exists(u.defects() != 0);
        change();
        u.complained = true;
        blame(u, 15);
        return ++now.complaints;
    }

    public int lot(int lot, int what) {
        Lot l = lotOf(lot);
        inRange(within(what, 0, 9));
        int n = l.inspections.size();
        return switch (what) {
            case 0 -> l.product;
            case 1 -> l.units.size();
            case 2 -> l.status;
            case 3 -> n;
            case 8 -> l.parts.length;
            case 9 -> l.machine;
            default -> n == 0 ? -1 : l.inspections.get(n - 1)[what - 4];
        };
    }

    public int units(int lot, int state) {
        Lot l = lotOf(lot);
        inRange(within(state, -1, 4));
        if (state >= 0) {
            return l.in(state).size();
        }
        int n = 0;
        for (Unit u : l.in(0)) {
            n += bad(l, u) ? 1 : 0;
        }
        return n;
    }

    public int unit(int lot, int unit, int what) {
        Unit u = unitOf(lot, unit);
        inRange(within(what, 0, 3));
        return new int[] {u.state, u.defects(), u.repairs, bad(lotOf(lot), u) ? 1 : 0}[what];
    }

    public long chance(int lot, int severity) {
        Lot l = lotOf(lot);
        inRange(within(severity, 0, 2));
        int n = l.in(0).size();
        allowed(n > 0);
        int b = units(lot, -1);
        int s = size(n, severity);
        int a = allowedFor(l.product, s, severity);
        double[] p = new double[s + 2];
        p[0] = 1.0;
        for (int j = 0; j < s; j++) {
            double[] q = new double[s + 2];
            for (int k = 0; k <= j + 1; k++) {
                double good = Math.max(0, n - b - (j - k));
                double bad = Math.max(0, b - (k - 1));
                q[k] = p[k] * good / (n - j) + (k == 0 ? 0.0 : p[k - 1]) * bad / (n - j);
            }
            p = q;
        }
        double sum = 0.0;
        for (int k = 0; k <= Math.min(a, s); k++) {
            sum += p[k];
        }
        return Double.doubleToLongBits(sum);
    }

    public int madeOf(int lot, int unit, int part) {
        Unit u = unitOf(lot, unit);
        exists(within(part, 0, lotOf(lot).parts.length - 1));
        return u.madeOf[part];
    }

    private boolean contains(int outer, int inner) {
        for (int p : now.lots.get(outer / 1000).units.get(outer % 1000).madeOf) {
            if (p == inner || p / 1000 > inner / 1000 && contains(p, inner)) {
                return true;
            }
        }
        return false;
    }

    public int whereabouts(int lot, int unit) {
        int place = lot * 1000 + unit;
        if (unitOf(lot, unit).state != 3) {
            return place;
        }
        for (int l = lot + 1; l < now.lots.size(); l++) {
            for (int u = 0; u < now.lots.get(l).units.size(); u++) {
                if (unitOf(l, u).state != 3 && contains(l * 1000 + u, place)) {
                    return l * 1000 + u;
                }
            }
        }
        throw new AssertionError();
    }

    public int trace(int lot, int unit, int kind, boolean isCause) {
        Unit u = unitOf(lot, unit);
        inRange(within(kind, 0, 3));
        exists(u.cause[kind] >= 0);
        return isCause ? u.cause[kind] : u.origin[kind];
    }

    private boolean touches(int place, int lot) {
        boolean touches = place / 1000 == lot;
        for (int p : now.lots.get(place / 1000).units.get(place % 1000).madeOf) {
            touches |= touches(p, lot);
        }
        return touches;
    }

    public int recall(int lot) {
        lotOf(lot);
        int set = 0;
        for (int l = lot; l < now.lots.size(); l++) {
            for (int u = 0; u < now.lots.get(l).units.size(); u++) {
                set |= touches(l * 1000 + u, lot) ? 1 << l : 0;
            }
        }
        return set;
    }

    public int recalled(int lot, int state) {
        lotOf(lot);
        inRange(within(state, 0, 4));
        int n = 0;
        for (int l = lot; l < now.lots.size(); l++) {
            for (int u = 0; u < now.lots.get(l).units.size(); u++) {
                n += unitOf(l, u).state == state && touches(l * 1000 + u, lot) ? 1 : 0;
            }
        }
        return n;
    }

    public int blame(int cause, int kind) {
        inRange(within(cause, 0, 6) && within(kind, -1, 3));
        int n = 0;
        for (int k = 0; k < 4; k++) {
            n += kind == k || kind == -1 ? now.blame.getOrDefault(cause * 10 + k, 0) : 0;
        }
        return n;
    }

    public int worst(int rank) {
        List<Integer> order = new ArrayList<>(now.blame.keySet());
        order.sort((a, b) -> Integer.compare(now.blame.get(b), now.blame.get(a)));
        exists(within(rank, 0, order.size() - 1));
        return order.get(rank);
    }

    public int outgoing(int product) {
        there(within(product, 0, 3));
        int all = 0;
        int bad = 0;
        for (Lot l : now.lots) {
            for (Unit u : l.in(4)) {
                all += l.product == product ? 1 : 0;
                bad += l.product == product && bad(l, u) ? 1 : 0;
            }
        }
        if (all == 0) {
            throw new ArithmeticException();
        }
        return Float.floatToIntBits((float) bad / (float) all);
    }

    public long foundShare(int product) {
        there(within(product, 0, 3));
        int all = 0;
        int found = 0;
        for (Lot l : now.lots) {
            if (l.product == product && !l.inspections.isEmpty()) {
                all += l.inspections.get(0)[1];
                found += l.inspections.get(0)[3];
            }
        }
        if (all == 0) {
            throw new ArithmeticException();
        }
        return Double.doubleToLongBits((double) found / (double) all);
    }

    public int open(int drawer, int kind) {
        there(within(drawer, 0, 3));
        inRange(within(kind, 0, 2));
        int n = drawers.get(drawer).size();
        drawers.get(drawer).clear();
        drawerKinds[drawer] = kind;
        return n;
    }

    public int keep(int drawer, int lot, int unit) {
        there(within(drawer, 0, 3));
        Unit u = unitOf(lot, unit);
        List<int[]> d = drawers.get(drawer);
        allowed(d.size() < 5);
        boolean bad = bad(lotOf(lot), u);
        if (drawerKinds[drawer] == 1 && !bad || drawerKinds[drawer] == 2 && !(bad && u.repairs == 2)) {
            throw new UnsupportedOperationException();
        }
        d.add(new int[] {lot, unit, u.defects(), u.repairs});
        return d.size();
    }

    public int specimen(int drawer, int index, int what) {
        there(within(drawer, 0, 3) && within(index, 0, drawers.get(drawer).size() - 1));
        inRange(within(what, 0, 3));
        return drawers.get(drawer).get(index)[what];
    }

    public int append(int packed) {
        StringBuilder more = new StringBuilder();
        for (int shift : new int[] {24, 16, 8, 0}) {
            int c = packed >>> shift & 0xff;
            inRange(c == 0 || within(c, 33, 126));
            if (c != 0) {
                more.append((char) c);
            }
        }
        allowed(buffer.length() + more.length() <= 60);
        buffer += more;
        return buffer.length();
    }

    public int run() {
        String text = buffer;
        buffer = "";
        error = TEXT.matcher(text).matches() ? -1 : errorOf(text);
        inRange(error < 0);
        State before = now.copy();
        isCommand = true;
        int n = 0;
        int at = 0;
        try {
            for (String command : text.split(";")) {
                carryOut(command);
                n++;
                at += command.length() + 1;
            }
        } catch (RuntimeException e) {
            now = before;
            error = at;
            throw new IllegalStateException();
        } finally {
            isCommand = false;
        }
        past.push(before);
        if (past.size() > 8) {
            past.removeLast();
        }
        return n;
    }

    private static int errorOf(String text) {
        int error = 0;
        while (error < text.length() && canGoOn(text.substring(0, error + 1))) {
            error++;
        }
        int start = text.substring(0, error).lastIndexOf(';') + 1;
        Matcher word = Pattern.compile("[a-z]*").matcher(text).region(start, text.length());
        word.lookingAt();
        return word.group().isEmpty() || word.group().matches(WORDS) ? error : start;
    }

    private static boolean canGoOn(String beginning) {
        Matcher m = TEXT.matcher(beginning);
        return m.matches() || m.hitEnd();
    }

    private void carryOut(String command) {
        String[] sides = command.split(":");
        int[] n = {-1, -1, -1, -1, -1, -1};
        String[] numbers = sides[1].split(",");
        for (int i = 0; i < numbers.length; i++) {
            n[i] = Integer.parseInt(numbers[i]);
        }
        switch (sides[0]) {
            case "machine" -> machine(n[0], n[1], n[2]);
            case "product" -> product(n[0], n[1], n[2], n[3]);
            case "raw" -> raw(n[0], n[1], n[2]);
            case "make" -> make(n[0], n[1], n[2], n[3], n[4], n[5]);
            case "inspect" -> inspect(n[0]);
            case "sort" -> sort(n[0]);
            case "ship" -> ship(n[0]);
            case "release" -> release(n[0]);
            default -> seed(n[0]);
        }
    }

    public int errorPosition() {
        return error;
    }

    public int report(int lot) {
        Lot l = lotOf(lot);
        String middle = "not inspected";
        if (!l.inspections.isEmpty()) {
            int[] i = l.inspections.get(l.inspections.size() - 1);
            middle = Arrays.asList("normal", "tightened", "reduced").get(i[0]) + " " + i[1] + "/" + i[2] + ", found "
                    + i[3];
        }
        written = "lot " + lot + ": product " + l.product + ", " + l.in(0).size() + " of " + l.units.size()
                + " here, " + middle + ", "
                + Arrays.asList("waiting", "accepted", "rejected", "shipped").get(l.status);
        return written.length();
    }

    public char character(int index) {
        there(within(index, 0, written.length() - 1));
        return written.charAt(index);
    }

    public int undo() {
        allowed(!past.isEmpty());
        now = past.pop();
        return past.size();
    }

    public int save() {
        saved = now.copy();
        return now.lots.size();
    }

    public int restore() {
        allowed(saved != null);
        now = saved.copy();
        past.clear();
        return now.lots.size();
    }

    public int count(int what) {
        inRange(within(what, 0, 6) || within(what, 10, 14));
        int all = 0;
        int in = 0;
        for (Lot l : now.lots) {
            all += l.units.size();
            in += what >= 10 ? l.in(what - 10).size() : 0;
        }
        return what >= 10 ? in : new int[] {now.lots.size(), all, now.repairs, now.complaints, past.size(),
            buffer.length(), (int) now.seed}[what];
    }
}

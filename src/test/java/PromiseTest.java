import java.lang.reflect.Constructor;
import java.lang.reflect.Field;
import java.lang.reflect.Method;
import java.lang.reflect.Modifier;
import java.util.NoSuchElementException;

/** The promises of the document one after the other, with answers worked out by hand. */
public final class PromiseTest {
    private interface Call {
        void go();
    }

    private static final Class<?> PLACE = IndexOutOfBoundsException.class;
    private static final Class<?> NUMBER = IllegalArgumentException.class;
    private static final Class<?> STATE = IllegalStateException.class;
    private static final Class<?> NOTHING = NoSuchElementException.class;
    private static final int MIN = Integer.MIN_VALUE;
    private static final int MAX = Integer.MAX_VALUE;

    private static int checks;
    private static int wrong;

    private static void due(String what, long got, long want) {
        checks++;
        if (got != want) {
            wrong++;
            System.out.println(what + " answered " + got + ", due is " + want);
        }
    }

    private static void refused(String what, Class<?> kind, Call call) {
        checks++;
        Class<?> got = null;
        try {
            call.go();
        } catch (RuntimeException e) {
            got = e.getClass();
        }
        if (got != kind) {
            wrong++;
            System.out.println(what + " threw " + got + ", due is " + kind);
        }
    }

    /** Machine 0 works well; machine 1 causes a defect of the kind 0 in each unit, machine 2 of the kind 1 etc. */
    private static LotInspector office() {
        LotInspector x = new LotInspector();
        for (int kind = 0; kind < 4; kind++) {
            x.machine(kind + 1, 1, kind);
        }
        return x;
    }

    /** A lot that is accepted though all its units are defective, as its product 3 is not inspected for anything. */
    private static int blindLot(LotInspector x, int machine, int size) {
        x.product(3, 5, 0, 0);
        int lot = x.raw(machine, 3, size);
        x.inspect(lot);
        return lot;
    }

    private static void type(LotInspector x, String text) {
        for (int i = 0; i < text.length(); i += 4) {
            int packed = 0;
            for (int j = i; j < i + 4; j++) {
                packed = packed << 8 | (j < text.length() ? text.charAt(j) : 0);
            }
            x.append(packed);
        }
    }

    private static String reportOn(LotInspector x, int lot) {
        int length = x.report(lot);
        StringBuilder text = new StringBuilder();
        for (int i = 0; i < length; i++) {
            text.append(x.character(i));
        }
        return text.toString();
    }

    private static void dueText(String what, String got, String want) {
        checks++;
        if (!got.equals(want)) {
            wrong++;
            System.out.println(what + " is \"" + got + "\", due is \"" + want + "\"");
        }
    }

    private static void face() {
        String[] names = ("machine worked product policy table afterwards release seed raw make inspect sort ship "
                + "complain lot units unit chance madeOf whereabouts trace recall recalled blame worst outgoing "
                + "foundShare open keep specimen append run errorPosition report character undo save restore count")
                .split(" ");
        int found = 0;
        for (Method m : LotInspector.class.getDeclaredMethods()) {
            boolean isPublic = Modifier.isPublic(m.getModifiers());
            boolean isOfFace = java.util.Arrays.asList(names).contains(m.getName());
            due("public " + m.getName(), isPublic ? 1 : 0, isOfFace ? 1 : 0);
            due("public or private " + m.getName(), isPublic || Modifier.isPrivate(m.getModifiers()) ? 1 : 0, 1);
            found += isPublic ? 1 : 0;
        }
        due("the number of public methods", found, names.length);
        for (Field f : LotInspector.class.getDeclaredFields()) {
            due("private " + f.getName(), Modifier.isPrivate(f.getModifiers()) ? 1 : 0, 1);
        }
        for (Constructor<?> c : LotInspector.class.getDeclaredConstructors()) {
            due("public constructor", Modifier.isPublic(c.getModifiers()) ? c.getParameterCount() : -1, 0);
        }
        due("final class", Modifier.isFinal(LotInspector.class.getModifiers()) ? 1 : 0, 1);
    }

    private static void promise1NewObject() {
        LotInspector x = new LotInspector();
        int[] counts = {0, 0, 0, 0, 0, 0, 1};
        int[] policies = {5, 15, 3, 0, 0, 0, 0};
        for (int what = 0; what < 7; what++) {
            due("1 count " + what, x.count(what), counts[what]);
            for (int p = 0; p < 4; p++) {
                due("1 policy " + what, x.policy(p, what), policies[what]);
            }
        }
        for (int m = 0; m < 6; m++) {
            due("1 worked", x.worked(m), 0);
            due("1 machine", x.machine(m, 0, 0), 0);
        }
        due("1 errorPosition", x.errorPosition(), -1);
        refused("1 lot", PLACE, () -> x.lot(0, 0));
        refused("1 character", PLACE, () -> x.character(0));
        refused("1 restore", STATE, () -> x.restore());
        LotInspector y = new LotInspector();
        y.raw(0, 0, 3);
        due("1 two offices", x.count(0), 0);
    }

    private static void promise2Machine() {
        LotInspector x = new LotInspector();
        due("2 first", x.machine(0, 3, 2), 0);
        due("2 second", x.machine(0, 50, 3), 32);
        due("2 greatest", x.machine(0, 0, 1), 503);
        due("2 kind of no period", x.machine(0, 3, 2), 1);
        due("2 other machine", x.machine(5, 1, 0), 0);
        x.raw(0, 0, 7);
        for (int u = 0; u < 7; u++) {
            due("2 defects", x.unit(0, u, 1), u == 2 || u == 5 ? 4 : 0);
        }
        x.machine(0, 4, 1);
        due("2 count stays", x.worked(0), 7);
        x.raw(0, 0, 6);
        for (int u = 0; u < 6; u++) {
            due("2 goes on counting", x.unit(1, u, 1), u == 0 || u == 4 ? 2 : 0);
        }
        x.machine(0, 0, 1);
        x.raw(0, 0, 6);
        due("2 without period", x.units(2, -1), 0);
        for (int m : new int[] {-1, 6, MIN, MAX}) {
            refused("2 machine", PLACE, () -> x.machine(m, 51, 4));
        }
        for (int n : new int[] {-1, 51, MIN, MAX}) {
            refused("2 period", NUMBER, () -> x.machine(0, n, 0));
        }
        for (int n : new int[] {-1, 4, MIN, MAX}) {
            refused("2 kind", NUMBER, () -> x.machine(0, 0, n));
        }
        due("2 unchanged", x.machine(0, 1, 1), 1);
    }

    private static void promise3Worked() {
        LotInspector x = new LotInspector();
        x.raw(2, 0, 200);
        x.raw(2, 1, 1);
        due("3 worked", x.worked(2), 201);
        due("3 other", x.worked(3), 0);
        x.inspect(0);
        x.make(3, 0, 5, 0, -1, -1);
        due("3 assembled", x.worked(3), 5);
        due("3 parts", x.worked(2), 201);
        refused("3 below", PLACE, () -> x.worked(-1));
        refused("3 above", PLACE, () -> x.worked(6));
    }

    private static void promise4Product() {
        LotInspector x = office();
        due("4 first", x.product(3, 30, 0, 15), 5);
        due("4 second", x.product(3, 0, 15, 0), 30);
        due("4 third", x.product(3, 7, 1, 1), 0);
        for (int p : new int[] {-1, 4, MIN, MAX}) {
            refused("4 product", PLACE, () -> x.product(p, 31, 16, 16));
        }
        for (int n : new int[] {-1, 31, MIN, MAX}) {
            refused("4 limit", NUMBER, () -> x.product(0, n, 0, 0));
        }
        for (int n : new int[] {-1, 16, MIN, MAX}) {
            refused("4 inspected", NUMBER, () -> x.product(0, 0, n, 0));
            refused("4 repairable", NUMBER, () -> x.product(0, 0, 0, n));
        }
        due("4 unchanged", x.policy(0, 0), 5);
        x.raw(0, 0, 9);
        x.inspect(0);
        x.product(0, 9, 8, 4);
        due("4 score stays", x.policy(0, 4), 3);
        due("4 memory stays", x.policy(0, 5), 1);
        x.raw(1, 0, 9);
        due("4 bad as the product is now", x.units(1, -1), 0);
        x.product(0, 9, 9, 4);
        due("4 bad as the product is then", x.units(1, -1), 9);
    }

    private static void promise5Policy() {
        LotInspector x = office();
        x.product(1, 12, 6, 9);
        due("5 limit", x.policy(1, 0), 12);
        due("5 inspected", x.policy(1, 1), 6);
        due("5 repairable", x.policy(1, 2), 9);
        x.raw(2, 1, 9);
        x.raw(0, 1, 9);
        x.inspect(0);
        x.inspect(1);
        due("5 severity", x.policy(1, 3), 0);
        due("5 score", x.policy(1, 4), 3);
        due("5 memory", x.policy(1, 5), 2);
        due("5 rejected", x.policy(1, 6), 1);
        for (int p : new int[] {-1, 4}) {
            refused("5 product", PLACE, () -> x.policy(p, 7));
        }
        for (int n : new int[] {-1, 7, MIN, MAX}) {
            refused("5 what", NUMBER, () -> x.policy(1, n));
        }
    }

    private static void promise6Table() {
        LotInspector x = new LotInspector();
        int[] units = {1, 2, 8, 9, 15, 16, 25, 26, 50, 51, 90, 91, 150, 151, 200};
        int[] sizes = {1, 2, 2, 3, 3, 5, 5, 8, 8, 13, 13, 20, 20, 32, 32};
        int[] reduced = {1, 2, 2, 2, 2, 2, 2, 3, 3, 5, 5, 8, 8, 13, 13};
        x.product(1, 30, 15, 3);
        x.product(2, 0, 15, 3);
        for (int i = 0; i < units.length; i++) {
            due("6 normal size " + units[i], x.table(0, units[i], 0, true), sizes[i]);
            due("6 tightened size " + units[i], x.table(0, units[i], 1, true), sizes[i]);
            due("6 reduced size " + units[i], x.table(0, units[i], 2, true), reduced[i]);
            int allowed = sizes[i] * 30 / 100;
            due("6 normal allowed " + units[i], x.table(1, units[i], 0, false), allowed);
            due("6 tightened allowed " + units[i], x.table(1, units[i], 1, false), allowed == 0 ? 0 : allowed - 1);
            due("6 reduced allowed " + units[i], x.table(1, units[i], 2, false), reduced[i] * 30 / 100 + 1);
            due("6 nothing allowed", x.table(2, units[i], 0, false) + x.table(2, units[i], 1, false), 0);
            due("6 one allowed", x.table(2, units[i], 2, false), 1);
        }
        due("6 rounded down", x.table(1, 200, 0, false), 9);
        due("6 by the limit", x.table(0, 200, 0, false), 1);
        for (int p : new int[] {-1, 4}) {
            refused("6 product", PLACE, () -> x.table(p, 0, 3, true));
        }
        for (int n : new int[] {0, -1, 201, MIN, MAX}) {
            refused("6 units", NUMBER, () -> x.table(0, n, 0, true));
        }
        for (int n : new int[] {-1, 3, MIN, MAX}) {
            refused("6 severity", NUMBER, () -> x.table(0, 1, n, false));
        }
    }

    /** Makes and inspects a lot of the product 0; machine 1 gets it rejected, machine 0 accepted. */
    private static void inspected(LotInspector x, int machine) {
        x.inspect(x.raw(machine, 0, 9));
    }

    private static void promise7Afterwards() {
        LotInspector x = office();
        due("7 fresh and accepted", x.afterwards(0, 0, 0), 0);
        due("7 fresh and rejected", x.afterwards(0, 200, 0), 0);
        for (int i = 0; i < 4; i++) {
            inspected(x, 0);
        }
        due("7 score of 15", x.afterwards(0, 1, 2), 2);
        due("7 more than half", x.afterwards(0, 2, 3), 0);
        due("7 first rejected", x.afterwards(0, 1, 0), 0);
        due("7 nothing changes", x.policy(0, 4) * 100 + x.policy(0, 5), 1204);
        inspected(x, 0);
        due("7 reduced", x.policy(0, 3), 2);
        due("7 reduced below", x.afterwards(0, 1, 2), 2);
        due("7 reduced equal", x.afterwards(0, 2, 2), 0);
        due("7 reduced rejected", x.afterwards(0, 3, 2), 0);
        for (int p : new int[] {-1, 4}) {
            refused("7 product", PLACE, () -> x.afterwards(p, -1, -1));
        }
        for (int n : new int[] {-1, 201, MIN, MAX}) {
            refused("7 found", NUMBER, () -> x.afterwards(0, n, 0));
            refused("7 allowed", NUMBER, () -> x.afterwards(0, 0, n));
        }
        LotInspector y = office();
        y.product(0, 0, 15, 3);
        inspected(y, 1);
        due("7 second rejected", y.afterwards(0, 1, 0), 1);
        for (int i = 0; i < 4; i++) {
            inspected(y, 0);
        }
        due("7 one of the latest five", y.afterwards(0, 1, 0), 0);
        inspected(y, 1);
        due("7 two of the latest five", y.afterwards(0, 1, 0), 1);
        inspected(y, 1);
        due("7 tightened", y.policy(0, 3), 1);
        for (int i = 0; i < 4; i++) {
            due("7 too few accepted", y.afterwards(0, 0, 0), 1);
            inspected(y, 0);
        }
        due("7 five accepted", y.afterwards(0, 0, 0), 0);
        due("7 tightened stays", y.afterwards(0, 1, 0), 1);
        for (int i = 0; i < 4; i++) {
            inspected(y, 1);
        }
        due("7 the latest five decide", y.afterwards(0, 0, 0), 1);
        due("7 five rejected", y.afterwards(0, 1, 0), 3);
        inspected(y, 1);
        refused("7 stopped", STATE, () -> y.afterwards(0, 0, 0));
        refused("7 number ahead of state", NUMBER, () -> y.afterwards(0, 201, 0));
    }

    private static void promise7Memories() {
        LotInspector x = office();
        inspected(x, 0);
        inspected(x, 0);
        inspected(x, 1);
        due("7 score is lost", x.policy(0, 4), 0);
        due("7 memory grows", x.policy(0, 5) * 10 + x.policy(0, 6), 31);
        for (int i = 0; i < 5; i++) {
            inspected(x, 0);
        }
        due("7 reduced after eight", x.policy(0, 3), 2);
        due("7 emptied", x.policy(0, 4) + x.policy(0, 5) + x.policy(0, 6), 0);
        inspected(x, 0);
        due("7 no score when reduced", x.policy(0, 4), 0);
        due("7 memory when reduced", x.policy(0, 5), 1);
        inspected(x, 1);
        due("7 back to normal", x.policy(0, 3) * 100 + x.policy(0, 5), 0);
    }

    private static LotInspector stopped() {
        LotInspector x = office();
        for (int i = 0; i < 7; i++) {
            inspected(x, 1);
        }
        return x;
    }

    private static void promise8Release() {
        LotInspector x = stopped();
        due("8 stopped", x.policy(0, 3), 3);
        due("8 emptied by the stop", x.policy(0, 5), 0);
        x.raw(0, 0, 1);
        x.raw(0, 0, 1);
        x.raw(0, 1, 1);
        refused("8 no inspection", STATE, () -> x.inspect(7));
        due("8 waiting", x.release(0), 2);
        due("8 tightened", x.policy(0, 3), 1);
        due("8 memory", x.policy(0, 4) + x.policy(0, 5) + x.policy(0, 6), 0);
        refused("8 twice", STATE, () -> x.release(0));
        refused("8 normal", STATE, () -> x.release(1));
        refused("8 below", PLACE, () -> x.release(-1));
        refused("8 above", PLACE, () -> x.release(4));
        x.sort(0);
        LotInspector y = stopped();
        y.sort(3);
        refused("8 later inspections neither", STATE, () -> y.inspect(3));
        due("8 sorted lots wait", y.release(0), 1);
        due("8 then inspected", y.inspect(3), 0);
        due("8 not remembered", y.policy(0, 5), 0);
    }

    private static void promise9Seed() {
        LotInspector x = office();
        due("9 first", x.seed(0), 1);
        due("9 greatest", x.seed(MAX), 0);
        due("9 back", x.seed(1), MAX);
        refused("9 negative", NUMBER, () -> x.seed(-1));
        refused("9 least", NUMBER, () -> x.seed(MIN));
        due("9 unchanged", x.count(6), 1);
        // From the seed 1 come 16838, 5758, 10113, 17515, 31051.
        x.raw(1, 0, 20);
        due("9 found", x.inspect(0), 5);
        for (int u = 0; u < 20; u++) {
            boolean isDrawn = u == 18 || u == 1 || u == 16 || u == 6 || u == 13;
            due("9 drawn " + u, x.unit(0, u, 0), isDrawn ? 1 : 0);
        }
        due("9 after five draws", x.count(6) / 65536, 31051);
        x.seed(MAX);
        x.raw(1, 0, 1);
        x.inspect(1);
        due("9 no overflow", x.count(6), (2147483647L * 1103515245L + 12345L) % 2147483648L);
    }

    private static void promise10Raw() {
        LotInspector x = office();
        due("10 first", x.raw(0, 2, 200), 0);
        due("10 second", x.raw(3, 1, 1), 1);
        due("10 product", x.lot(0, 0), 2);
        due("10 size", x.lot(0, 1), 200);
        due("10 machine", x.lot(1, 9), 3);
        due("10 parts", x.lot(1, 8), 0);
        due("10 waiting", x.lot(1, 2), 0);
        due("10 defects", x.unit(1, 0, 1), 4);
        due("10 here", x.units(0, 0), 200);
        for (int n : new int[] {-1, 6, MIN, MAX}) {
            refused("10 machine", PLACE, () -> x.raw(n, 0, 0));
        }
        for (int n : new int[] {-1, 4, MIN, MAX}) {
            refused("10 product", PLACE, () -> x.raw(0, n, 0));
        }
        for (int n : new int[] {0, -1, 201, MIN, MAX}) {
            refused("10 size", NUMBER, () -> x.raw(0, 0, n));
        }
        for (int i = 2; i < 24; i++) {
            due("10 number", x.raw(0, 0, 1), i);
        }
        refused("10 25th lot", STATE, () -> x.raw(0, 0, 1));
        refused("10 size ahead of state", NUMBER, () -> x.raw(0, 0, 0));
        due("10 24 lots", x.count(0), 24);
    }

    private static void promise11Make() {
        LotInspector x = office();
        int a = x.raw(1, 0, 20);
        x.product(0, 30, 15, 3);
        // All five drawn units are bad and too many: with the limit 30 one is allowed.
        due("11 rejected", x.inspect(a), 5);
        refused("11 rejected part", STATE, () -> x.make(0, 0, 1, 0, -1, -1));
        x.product(0, 30, 0, 15);
        x.sort(a);
        x.inspect(a);
        int b = blindLot(x, 2, 4);
        int c = blindLot(x, 3, 6);
        x.raw(0, 0, 9);
        due("11 number", x.make(4, 1, 4, c, a, b), 4);
        due("11 parts", x.lot(4, 8), 3);
        due("11 product", x.lot(4, 0), 1);
        due("11 machine", x.lot(4, 9), 4);
        due("11 defects of a repaired part", x.unit(4, 1, 1), 2 | 4 | 8);
        due("11 defects of all", x.unit(4, 0, 1), 15);
        due("11 used up", x.units(b, 3), 4);
        due("11 left", x.units(c, 0), 2);
        due("11 used in order", x.unit(c, 3, 0) * 10 + x.unit(c, 4, 0), 30);
        due("11 next of what is here", x.make(0, 1, 2, c, -1, -1), 5);
        due("11 its unit", x.madeOf(5, 0, 0), c * 1000 + 4);
        due("11 one part", x.lot(5, 8), 1);
        refused("11 none here", STATE, () -> x.make(0, 0, 1, c, -1, -1));
        refused("11 too few here", STATE, () -> x.make(0, 0, 17, a, -1, -1));
        refused("11 waiting part", STATE, () -> x.make(0, 0, 1, 3, -1, -1));
        refused("11 second too few", STATE, () -> x.make(0, 0, 1, a, b, -1));
        refused("11 third too few", STATE, () -> x.make(0, 0, 16, a, 3, b));
        due("11 unchanged", x.units(a, 0), 16);
        x.ship(a);
        refused("11 shipped part", STATE, () -> x.make(0, 0, 1, a, -1, -1));
        for (int n : new int[] {-1, 6}) {
            refused("11 machine", PLACE, () -> x.make(n, 0, 0, 0, 0, -1));
        }
        for (int n : new int[] {-1, 4}) {
            refused("11 product", PLACE, () -> x.make(0, n, 0, 0, 0, -1));
        }
        for (int n : new int[] {-2, 6, MIN, MAX}) {
            refused("11 first", PLACE, () -> x.make(0, 0, 0, n, -1, -1));
            refused("11 second", PLACE, () -> x.make(0, 0, 0, 0, n, -1));
            refused("11 third", PLACE, () -> x.make(0, 0, 0, 0, -1, n));
        }
        refused("11 no first", PLACE, () -> x.make(0, 0, 1, -1, 1, 2));
        for (int n : new int[] {0, -1, 201, MIN, MAX}) {
            refused("11 size", NUMBER, () -> x.make(0, 0, n, 3, -1, -1));
        }
        refused("11 first and second", NUMBER, () -> x.make(0, 0, 1, 3, 3, -1));
        refused("11 first and third", NUMBER, () -> x.make(0, 0, 1, 3, 1, 3));
        refused("11 second and third", NUMBER, () -> x.make(0, 0, 1, 0, 3, 3));
        refused("11 third without second", NUMBER, () -> x.make(0, 0, 1, 3, -1, 1));
    }

    private static void promise11Limits() {
        LotInspector x = office();
        blindLot(x, 0, 200);
        due("11 skips what is set aside", promise11SetAside(), 3);
        for (int i = 1; i < 24; i++) {
            due("11 number", x.make(0, 0, 1, 0, -1, -1), i);
        }
        refused("11 25th lot", STATE, () -> x.make(0, 0, 1, 0, -1, -1));
        LotInspector y = office();
        blindLot(y, 0, 200);
        due("11 all of them", y.make(1, 0, 200, 0, -1, -1), 1);
        due("11 used", y.count(13), 200);
        due("11 made bad", y.units(1, -1), 200);
    }

    /** One bad unit in a lot of eight: the draws from the seed 1 are the units 6 and 4. */
    private static int promise11SetAside() {
        LotInspector x = new LotInspector();
        x.product(0, 30, 15, 3);
        x.machine(0, 5, 0);
        x.raw(0, 0, 9);
        x.machine(0, 0, 0);
        // 16838 % 9 = 8, 5758 % 8 = 6, 10113 % 7 = 5: not the unit 4, which is bad.
        due("11 none found", x.inspect(0), 0);
        due("11 bad part", x.make(0, 0, 5, 0, -1, -1), 1);
        due("11 bad unit", x.unit(1, 4, 1), 1);
        x.machine(0, 20, 0);
        x.seed(1);
        // The count is 14 by now, so that the unit 5 is bad.
        x.product(0, 30, 15, 3);
        x.raw(0, 0, 16);
        // 16838 % 16 = 6, 5758 % 15 = 13, 10113 % 14 = 5, 17515 % 13 = 4, 31051 % 12 = 7: 6, 14, 5, 4, 10.
        due("11 one found", x.inspect(2), 1);
        due("11 accepted", x.lot(2, 2), 1);
        due("11 aside", x.unit(2, 5, 0), 1);
        int lot = x.make(1, 0, 6, 2, -1, -1);
        due("11 before the gap", x.madeOf(lot, 4, 0), 2004);
        due("11 behind the gap", x.madeOf(lot, 5, 0), 2006);
        due("11 still aside", x.unit(2, 5, 0), 1);
        return lot;
    }

    private static void promise12Inspect() {
        LotInspector x = office();
        x.product(0, 20, 15, 1);
        x.raw(1, 0, 26);
        due("12 found", x.inspect(0), 8);
        due("12 rejected", x.lot(0, 2), 2);
        due("12 aside", x.units(0, 1), 8);
        due("12 latest", x.lot(0, 4) * 1000 + x.lot(0, 5) * 100 + x.lot(0, 6) * 10 + x.lot(0, 7), 818);
        due("12 blamed", x.blame(1, 0), 8);
        refused("12 rejected lot", STATE, () -> x.inspect(0));
        x.sort(0);
        due("12 remembered", x.policy(0, 5), 1);
        x.seed(1);
        // 16838 % 26 = 16, 5758 % 25 = 8, ...: three of the repaired units have the defect 3 of a seventh repair.
        int found = x.inspect(0);
        due("12 tightened", x.lot(0, 4), 1);
        due("12 one less", x.lot(0, 6), 0);
        due("12 status", x.lot(0, 2), found > 0 ? 2 : 1);
        due("12 no memory of later ones", x.policy(0, 5), 1);
        due("12 inspections", x.lot(0, 3), 2);
        x.product(1, 30, 1, 1);
        x.machine(5, 2, 0);
        x.raw(5, 1, 1);
        x.raw(5, 1, 1);
        due("12 sample of one", x.inspect(1), 0);
        due("12 cut", x.lot(1, 5), 1);
        due("12 one found of one", x.inspect(2), 1);
        due("12 none allowed of one", x.lot(2, 2), 2);
        refused("12 accepted lot", STATE, () -> x.inspect(1));
        x.product(1, 30, 1, 0);
        due("12 scrapped", x.sort(2), 1);
        refused("12 none here", STATE, () -> x.inspect(2));
        x.ship(1);
        refused("12 shipped lot", STATE, () -> x.inspect(1));
        for (int n : new int[] {-1, 3, MIN, MAX}) {
            refused("12 lot", PLACE, () -> x.inspect(n));
        }
        promise12Allowed();
    }

    private static void promise12Allowed() {
        LotInspector x = new LotInspector();
        x.product(0, 20, 1, 1);
        x.machine(0, 6, 0);
        x.raw(0, 0, 20);
        // The draws are 18, 1, 16, 6, 13; the bad units 5, 11, 17.
        due("12 none", x.inspect(0), 0);
        x.machine(0, 7, 0);
        x.seed(1);
        x.raw(0, 0, 20);
        // The counts 21, 28 and 35 are those of the units 0, 7 and 14.
        due("12 none again", x.inspect(1), 0);
        x.seed(1);
        x.machine(0, 42, 0);
        x.raw(0, 0, 20);
        // The count 42 is that of the unit 1.
        due("12 one is allowed", x.inspect(2), 1);
        due("12 accepted", x.lot(2, 2) * 100 + x.lot(2, 6) * 10 + x.lot(2, 7), 111);
        due("12 score of a full number", x.policy(0, 4), 0);
        due("12 that unit", x.unit(2, 1, 0), 1);
        due("12 the others stay", x.units(2, 0), 19);
    }

    private static void promise13Sort() {
        LotInspector x = office();
        x.product(0, 0, 15, 1);
        x.raw(1, 0, 8);
        due("13 found", x.inspect(0), 2);
        due("13 none scrapped", x.sort(0), 0);
        due("13 waiting", x.lot(0, 2), 0);
        due("13 here", x.units(0, 0), 8);
        due("13 repairs of the office", x.count(2), 8);
        for (int u = 0; u < 8; u++) {
            due("13 the seventh", x.unit(0, u, 1), u == 6 ? 8 : 0);
            due("13 repairs", x.unit(0, u, 2), 1);
        }
        due("13 blamed once", x.blame(1, 0), 8);
        due("13 cause of the seventh", x.trace(0, 6, 3, true), 6);
        refused("13 waiting lot", STATE, () -> x.sort(0));
        for (int n : new int[] {-1, 1, MIN, MAX}) {
            refused("13 lot", PLACE, () -> x.sort(n));
        }
        due("13 then accepted", x.inspect(0), 0);
        refused("13 accepted lot", STATE, () -> x.sort(0));

        LotInspector y = office();
        y.product(0, 0, 15, 14);
        y.raw(1, 0, 8);
        y.inspect(0);
        due("13 all scrapped", y.sort(0), 8);
        due("13 scrapped", y.units(0, 2), 8);
        due("13 no repairs", y.count(2), 0);
        due("13 blamed all the same", y.blame(1, 0), 8);
        due("13 defects stay", y.unit(0, 3, 1), 1);
        y.raw(1, 0, 8);
        y.inspect(1);
        y.product(0, 0, 2, 2);
        due("13 set aside and not bad", y.sort(1), 0);
        due("13 only those are repaired", y.count(2), 2);
        due("13 and keep what can't be repaired", y.units(1, 0) * 10 + y.unit(1, 0, 1), 81);
    }

    private static void promise13Repeated() {
        LotInspector x = office();
        int a = blindLot(x, 1, 8);
        int b = blindLot(x, 2, 8);
        int c = blindLot(x, 3, 8);
        x.product(0, 0, 1, 1 | 4);
        int lot = x.make(4, 0, 8, a, b, c);
        x.inspect(lot);
        due("13 once", x.sort(lot), 0);
        due("13 all that can be repaired", x.unit(lot, 0, 1), 2 | 8);
        due("13 has one already", x.trace(lot, 6, 3, true), 4);
        x.product(0, 0, 8, 8);
        x.inspect(lot);
        due("13 twice", x.sort(lot), 0);
        due("13 twice repaired", x.unit(lot, 5, 2), 2);
        // The 14th repair is that of the unit 5: it loses its defect 3 and gets another one.
        due("13 behind the loss", x.unit(lot, 5, 1), 2 | 8);
        due("13 by the repair", x.trace(lot, 5, 3, true), 6);
        due("13 in this unit", x.trace(lot, 5, 3, false), lot * 1000 + 5);
        due("13 the others", x.unit(lot, 4, 1), 2);
        x.product(0, 0, 2, 2);
        x.inspect(lot);
        due("13 not thrice", x.sort(lot), 8);
        due("13 none left", x.units(lot, 0), 0);
        due("13 sixteen repairs", x.count(2), 16);
    }

    private static void promise14Ship() {
        LotInspector x = new LotInspector();
        x.product(0, 20, 1, 1);
        x.machine(0, 2, 0);
        x.raw(0, 0, 1);
        x.raw(0, 0, 1);
        refused("14 waiting", STATE, () -> x.ship(0));
        x.inspect(0);
        x.inspect(1);
        refused("14 rejected", STATE, () -> x.ship(1));
        due("14 shipped", x.ship(0), 1);
        due("14 status", x.lot(0, 2), 3);
        due("14 state", x.unit(0, 0, 0), 4);
        refused("14 twice", STATE, () -> x.ship(0));
        int lot = blindLot(x, 3, 7);
        x.make(0, 0, 2, lot, -1, -1);
        due("14 those that are here", x.ship(lot), 5);
        due("14 not those used", x.units(lot, 3), 2);
        int other = blindLot(x, 3, 2);
        x.make(0, 0, 2, other, -1, -1);
        refused("14 none here", STATE, () -> x.ship(other));
        for (int n : new int[] {-1, 6, MIN, MAX}) {
            refused("14 lot", PLACE, () -> x.ship(n));
        }
    }

    private static void promise15Complain() {
        LotInspector x = office();
        int a = blindLot(x, 1, 3);
        int b = blindLot(x, 2, 3);
        int lot = x.make(4, 3, 2, a, b, -1);
        x.inspect(lot);
        refused("15 here", STATE, () -> x.complain(lot, 0));
        refused("15 used", STATE, () -> x.complain(a, 0));
        x.ship(lot);
        due("15 first", x.complain(lot, 1), 1);
        due("15 every defect", x.blame(1, 0) * 100 + x.blame(2, 1) * 10 + x.blame(4, 3), 111);
        due("15 no other", x.blame(3, -1) + x.blame(0, -1) + x.blame(5, -1) + x.blame(6, -1), 0);
        refused("15 twice", STATE, () -> x.complain(lot, 1));
        due("15 second", x.complain(lot, 0), 2);
        due("15 count", x.count(3), 2);
        int good = blindLot(x, 0, 1);
        refused("15 state ahead of defects", STATE, () -> x.complain(good, 0));
        x.ship(good);
        refused("15 without defects", NOTHING, () -> x.complain(good, 0));
        for (int n : new int[] {-1, 4, MIN, MAX}) {
            refused("15 lot", PLACE, () -> x.complain(n, 0));
        }
        for (int n : new int[] {-1, 2, 199, 200, MIN, MAX}) {
            refused("15 unit", PLACE, () -> x.complain(lot, n));
        }
    }

    private static void promise16Lot() {
        LotInspector x = office();
        x.raw(5, 2, 12);
        int[] fresh = {2, 12, 0, 0, -1, -1, -1, -1, 0, 5};
        for (int what = 0; what < 10; what++) {
            due("16 fresh " + what, x.lot(0, what), fresh[what]);
        }
        x.product(2, 30, 1, 1);
        x.raw(1, 2, 60);
        x.inspect(1);
        int[] rejected = {2, 60, 2, 1, 0, 13, 3, 13, 0, 1};
        for (int what = 0; what < 10; what++) {
            due("16 rejected " + what, x.lot(1, what), rejected[what]);
        }
        x.product(2, 30, 0, 1);
        x.sort(1);
        x.inspect(1);
        x.make(4, 3, 7, 1, -1, -1);
        int[] later = {2, 60, 1, 2, 1, 13, 2, 0, 0, 1};
        int[] made = {3, 7, 0, 0, -1, -1, -1, -1, 1, 4};
        for (int what = 0; what < 10; what++) {
            due("16 later " + what, x.lot(1, what), later[what]);
            due("16 made " + what, x.lot(2, what), made[what]);
        }
        for (int n : new int[] {-1, 3, 24, MIN, MAX}) {
            refused("16 lot", PLACE, () -> x.lot(n, 10));
        }
        for (int n : new int[] {-1, 10, MIN, MAX}) {
            refused("16 what", NUMBER, () -> x.lot(0, n));
        }
    }

    private static void promise17Units() {
        LotInspector x = office();
        x.product(0, 0, 1, 0);
        x.raw(1, 0, 20);
        due("17 bad", x.units(0, -1), 20);
        x.inspect(0);
        due("17 aside", x.units(0, 1), 5);
        due("17 bad and here", x.units(0, -1), 15);
        x.product(0, 0, 2, 0);
        due("17 bad no more", x.units(0, -1), 0);
        x.product(0, 0, 1, 0);
        x.sort(0);
        due("17 scrapped", x.units(0, 2), 20);
        int lot = blindLot(x, 1, 10);
        x.make(0, 0, 4, lot, -1, -1);
        x.ship(lot);
        due("17 used", x.units(lot, 3), 4);
        due("17 shipped", x.units(lot, 4), 6);
        due("17 here", x.units(lot, 0), 0);
        for (int n : new int[] {-1, 3, MIN, MAX}) {
            refused("17 lot", PLACE, () -> x.units(n, 5));
        }
        for (int n : new int[] {-2, 5, MIN, MAX}) {
            refused("17 state", NUMBER, () -> x.units(0, n));
        }
    }

    private static void promise18Unit() {
        LotInspector x = office();
        x.product(0, 0, 15, 1);
        x.raw(1, 0, 8);
        due("18 state", x.unit(0, 6, 0), 0);
        due("18 defects", x.unit(0, 6, 1), 1);
        due("18 repairs", x.unit(0, 6, 2), 0);
        due("18 bad", x.unit(0, 6, 3), 1);
        x.inspect(0);
        due("18 aside", x.unit(0, 6, 0), 1);
        due("18 here", x.unit(0, 5, 0), 0);
        x.sort(0);
        due("18 repaired", x.unit(0, 5, 2), 1);
        due("18 good", x.unit(0, 5, 3), 0);
        due("18 seventh", x.unit(0, 6, 3), 1);
        x.product(0, 0, 7, 1);
        due("18 as it is inspected now", x.unit(0, 6, 3), 0);
        for (int n : new int[] {-1, 1, MIN, MAX}) {
            refused("18 lot", PLACE, () -> x.unit(n, 0, 4));
        }
        for (int n : new int[] {-1, 8, 200, MIN, MAX}) {
            refused("18 unit", PLACE, () -> x.unit(0, n, 4));
        }
        for (int n : new int[] {-1, 4, MIN, MAX}) {
            refused("18 what", NUMBER, () -> x.unit(0, 0, n));
        }
    }

    private static void promise19Chance() {
        LotInspector x = new LotInspector();
        x.machine(0, 4, 0);
        x.raw(0, 0, 4);
        due("19 one of four", x.chance(0, 0), Double.doubleToLongBits(0.5));
        due("19 tightened", x.chance(0, 1), Double.doubleToLongBits(0.5));
        due("19 reduced", x.chance(0, 2), Double.doubleToLongBits(1.0));
        x.machine(0, 1, 0);
        x.raw(0, 0, 3);
        due("19 none", x.chance(1, 0), 0L);
        due("19 two of two are one too many", x.chance(1, 2), 0L);
        x.raw(5, 1, 150);
        due("19 sure", x.chance(2, 1), Double.doubleToLongBits(1.0));
        x.machine(0, 3, 0);
        x.raw(0, 2, 9);
        double good = 1.0 * 6 / 9;
        good = good * 5 / 8;
        good = good * 4 / 7;
        due("19 three of nine", x.chance(3, 0), Double.doubleToLongBits(good));
        x.product(2, 5, 14, 0);
        due("19 not inspected", x.chance(3, 0), Double.doubleToLongBits(1.0));
        x.inspect(3);
        due("19 whatever its status", x.chance(3, 1), Double.doubleToLongBits(1.0));
        x.ship(3);
        refused("19 none here", STATE, () -> x.chance(3, 0));
        refused("19 severity ahead of state", NUMBER, () -> x.chance(3, 3));
        for (int n : new int[] {-1, 4, MIN, MAX}) {
            refused("19 lot", PLACE, () -> x.chance(n, 3));
        }
        for (int n : new int[] {-1, 3, MIN, MAX}) {
            refused("19 severity", NUMBER, () -> x.chance(0, n));
        }
    }

    private static void promise20MadeOf() {
        LotInspector x = office();
        int a = blindLot(x, 1, 9);
        int b = blindLot(x, 2, 3);
        int c = blindLot(x, 3, 2);
        x.make(0, 0, 5, a, -1, -1);
        int lot = x.make(0, 0, 2, c, a, b);
        due("20 first part", x.madeOf(lot, 1, 0), c * 1000 + 1);
        due("20 second part", x.madeOf(lot, 1, 1), a * 1000 + 6);
        due("20 third part", x.madeOf(lot, 0, 2), b * 1000);
        refused("20 fourth part", NOTHING, () -> x.madeOf(lot, 0, 3));
        refused("20 raw", NOTHING, () -> x.madeOf(a, 0, 0));
        refused("20 second of one", NOTHING, () -> x.madeOf(3, 0, 1));
        for (int n : new int[] {-1, MIN, MAX}) {
            refused("20 part", NOTHING, () -> x.madeOf(lot, 0, n));
        }
        for (int n : new int[] {-1, 5, MIN, MAX}) {
            refused("20 lot", PLACE, () -> x.madeOf(n, 0, 9));
        }
        for (int n : new int[] {-1, 2, MIN, MAX}) {
            refused("20 unit", PLACE, () -> x.madeOf(lot, n, 9));
        }
    }

    /** Lots 0 and 1 raw, 2 of 0, 3 of 2 and 1, 4 of 3; lot 5 apart. */
    private static LotInspector family() {
        LotInspector x = office();
        blindLot(x, 1, 12);
        blindLot(x, 2, 12);
        x.make(0, 3, 10, 0, -1, -1);
        x.inspect(2);
        x.make(4, 3, 6, 2, 1, -1);
        x.inspect(3);
        x.make(3, 3, 4, 3, -1, -1);
        blindLot(x, 1, 5);
        return x;
    }

    private static void promise21Whereabouts() {
        LotInspector x = family();
        due("21 deep", x.whereabouts(0, 3), 4003);
        due("21 up to what is not used", x.whereabouts(0, 4), 3004);
        due("21 once", x.whereabouts(0, 9), 2009);
        due("21 not used", x.whereabouts(0, 10), 10);
        due("21 other part", x.whereabouts(1, 0), 4000);
        due("21 itself", x.whereabouts(4, 2), 4002);
        x.ship(3);
        due("21 shipped", x.whereabouts(2, 5), 3005);
        for (int n : new int[] {-1, 6, MIN, MAX}) {
            refused("21 lot", PLACE, () -> x.whereabouts(n, 0));
        }
        for (int n : new int[] {-1, 12, MIN, MAX}) {
            refused("21 unit", PLACE, () -> x.whereabouts(0, n));
        }
    }

    private static void promise22Trace() {
        LotInspector x = family();
        due("22 deep origin", x.trace(4, 3, 0, false), 3);
        due("22 deep cause", x.trace(4, 3, 0, true), 1);
        due("22 second part", x.trace(4, 3, 1, false), 1003);
        due("22 cause of it", x.trace(4, 3, 1, true), 2);
        due("22 between", x.trace(4, 1, 3, false), 3001);
        due("22 between by", x.trace(4, 1, 3, true), 4);
        due("22 its own", x.trace(4, 1, 2, false), 4001);
        due("22 its own by", x.trace(4, 1, 2, true), 3);
        x.machine(1, 0, 3);
        due("22 whatever the machine does now", x.trace(0, 0, 0, true), 1);
        refused("22 no such defect", NOTHING, () -> x.trace(0, 0, 1, true));
        for (int n : new int[] {-1, 6, MIN, MAX}) {
            refused("22 lot", PLACE, () -> x.trace(n, 0, 4, true));
        }
        for (int n : new int[] {-1, 12, MIN, MAX}) {
            refused("22 unit", PLACE, () -> x.trace(0, n, 4, true));
        }
        for (int n : new int[] {-1, 4, MIN, MAX}) {
            refused("22 kind", NUMBER, () -> x.trace(0, 0, n, false));
        }
        LotInspector y = office();
        int a = blindLot(y, 1, 2);
        int b = blindLot(y, 1, 2);
        int c = blindLot(y, 0, 2);
        int lot = y.make(1, 3, 2, c, b, a);
        due("22 the first part that has it", y.trace(lot, 1, 0, false), b * 1000 + 1);
        due("22 nothing caused twice", y.unit(lot, 0, 1), 1);
    }

    private static void promise23Recall() {
        LotInspector x = family();
        due("23 first", x.recall(0), 0b11101);
        due("23 second", x.recall(1), 0b11010);
        due("23 between", x.recall(2), 0b11100);
        due("23 last", x.recall(4), 0b10000);
        due("23 apart", x.recall(5), 0b100000);
        for (int n : new int[] {-1, 6, MIN, MAX}) {
            refused("23 lot", PLACE, () -> x.recall(n));
        }
        LotInspector y = new LotInspector();
        for (int i = 0; i < 24; i++) {
            y.raw(0, 0, 1);
        }
        due("23 greatest", y.recall(23), 1 << 23);
    }

    private static void promise24Recalled() {
        LotInspector x = family();
        // 12 of lot 0, 10 of lot 2, 6 of lot 3 and 4 of lot 4, of which 10, 6, 4 and 0 are used.
        due("24 used", x.recalled(0, 3), 20);
        due("24 here", x.recalled(0, 0), 2 + 4 + 2 + 4);
        x.ship(2);
        due("24 shipped", x.recalled(0, 4), 4);
        due("24 others", x.recalled(1, 4), 0);
        due("24 only units that contain one", x.recalled(1, 0), 6 + 2 + 4);
        due("24 apart", x.recalled(5, 0), 5);
        due("24 scrapped", x.recalled(5, 2) + x.recalled(5, 1), 0);
        for (int n : new int[] {-1, 6, MIN, MAX}) {
            refused("24 lot", PLACE, () -> x.recalled(n, 5));
        }
        for (int n : new int[] {-1, 5, MIN, MAX}) {
            refused("24 state", NUMBER, () -> x.recalled(0, n));
        }
        LotInspector y = office();
        blindLot(y, 0, 6);
        y.make(0, 3, 2, 0, -1, -1);
        y.inspect(1);
        y.make(0, 3, 2, 0, 1, -1);
        due("24 a unit counts once", y.recalled(0, 0), 2 + 2);
        due("24 and so do those used", y.recalled(0, 3), 4 + 2);
        blindLot(y, 0, 4);
        y.inspect(2);
        y.make(0, 3, 2, 3, 2, -1);
        due("24 a part apart", y.recalled(3, 0), 2 + 2);
    }

    private static void promise25Blame() {
        LotInspector x = office();
        x.product(0, 0, 7, 7);
        x.raw(1, 0, 8);
        x.raw(4, 0, 8);
        x.inspect(0);
        due("25 by inspecting", x.blame(1, 0), 2);
        x.inspect(1);
        due("25 only inspected kinds", x.blame(4, 3), 0);
        x.sort(0);
        due("25 by sorting", x.blame(1, 0), 8);
        due("25 all kinds", x.blame(1, -1), 8);
        due("25 another kind", x.blame(1, 1), 0);
        due("25 the office", x.blame(6, -1), 0);
        x.product(0, 0, 15, 15);
        x.seed(1);
        // The unit 6, the seventh that was repaired, is drawn.
        due("25 found", x.inspect(0), 1);
        due("25 a repair", x.blame(6, 3), 1);
        due("25 all of the office", x.blame(6, -1), 1);
        for (int n : new int[] {-1, 7, MIN, MAX}) {
            refused("25 cause", NUMBER, () -> x.blame(n, 0));
        }
        for (int n : new int[] {-2, 4, MIN, MAX}) {
            refused("25 kind", NUMBER, () -> x.blame(0, n));
        }
        LotInspector y = office();
        int a = blindLot(y, 1, 2);
        int b = blindLot(y, 2, 2);
        y.product(0, 0, 1 | 8, 0);
        y.inspect(y.make(4, 0, 2, a, b, -1));
        due("25 on the cause in the part", y.blame(1, 0) * 100 + y.blame(2, 1) * 10 + y.blame(4, 3), 202);
    }

    private static void promise26Worst() {
        LotInspector x = office();
        refused("26 none", NOTHING, () -> x.worst(0));
        x.product(0, 0, 15, 0);
        x.machine(5, 1, 0);
        x.inspect(x.raw(2, 0, 8));
        x.inspect(x.raw(5, 0, 8));
        x.machine(5, 1, 2);
        x.inspect(x.raw(5, 1, 8));
        x.inspect(x.raw(4, 1, 9));
        x.inspect(x.raw(1, 2, 8));
        due("26 the most", x.worst(0), 43);
        due("26 ascending causes", x.worst(1) * 100 + x.worst(2), 1021);
        due("26 ascending kinds", x.worst(3) * 100 + x.worst(4), 5052);
        refused("26 no more", NOTHING, () -> x.worst(5));
        refused("26 never blamed", NOTHING, () -> x.worst(27));
        for (int n : new int[] {-1, 28, MIN, MAX}) {
            refused("26 rank", NOTHING, () -> x.worst(n));
        }
    }

    private static void promise27Outgoing() {
        LotInspector x = new LotInspector();
        x.machine(0, 3, 2);
        x.product(3, 5, 0, 0);
        x.raw(0, 3, 10);
        refused("27 none shipped", ArithmeticException.class, () -> x.outgoing(3));
        x.inspect(0);
        x.ship(0);
        due("27 nothing inspected", x.outgoing(3), 0);
        x.product(3, 5, 4, 0);
        due("27 three of ten", x.outgoing(3), Float.floatToIntBits(3.0f / 10.0f));
        x.product(3, 5, 0, 0);
        x.inspect(x.raw(5, 3, 3));
        x.inspect(x.raw(5, 1, 3));
        x.ship(1);
        x.product(3, 5, 15, 0);
        due("27 several lots", x.outgoing(3), Float.floatToIntBits(3.0f / 13.0f));
        refused("27 other product", ArithmeticException.class, () -> x.outgoing(1));
        x.ship(2);
        due("27 none bad", x.outgoing(1), 0);
        LotInspector y = office();
        y.ship(blindLot(y, 1, 7));
        y.product(3, 5, 1, 0);
        due("27 all bad", y.outgoing(3), Float.floatToIntBits(1.0f));
        refused("27 below", PLACE, () -> x.outgoing(-1));
        refused("27 above", PLACE, () -> x.outgoing(4));
    }

    private static void promise28FoundShare() {
        LotInspector x = office();
        x.product(0, 0, 15, 15);
        refused("28 none", ArithmeticException.class, () -> x.foundShare(0));
        x.raw(1, 0, 9);
        refused("28 none yet", ArithmeticException.class, () -> x.foundShare(0));
        x.inspect(0);
        due("28 all", x.foundShare(0), Double.doubleToLongBits(1.0));
        x.sort(0);
        x.inspect(0);
        due("28 first ones only", x.foundShare(0), Double.doubleToLongBits(1.0));
        x.inspect(x.raw(0, 0, 60));
        due("28 three of sixteen", x.foundShare(0), Double.doubleToLongBits(3.0 / 16.0));
        x.inspect(x.raw(0, 1, 60));
        due("28 none found", x.foundShare(1), 0L);
        x.inspect(x.raw(0, 0, 16));
        due("28 three of twentyone", x.foundShare(0), Double.doubleToLongBits(3.0 / 21.0));
        refused("28 other product", ArithmeticException.class, () -> x.foundShare(2));
        refused("28 below", PLACE, () -> x.foundShare(-1));
        refused("28 above", PLACE, () -> x.foundShare(4));
    }

    private static void promise29Open() {
        LotInspector x = office();
        x.raw(0, 0, 9);
        due("29 empty", x.open(0, 2), 0);
        refused("29 kind holds", UnsupportedOperationException.class, () -> x.keep(0, 0, 0));
        due("29 again", x.open(0, 0), 0);
        x.keep(0, 0, 0);
        x.keep(0, 0, 0);
        x.keep(3, 0, 0);
        due("29 two", x.open(0, 1), 2);
        due("29 emptied", x.open(0, 0), 0);
        refused("29 no specimens", PLACE, () -> x.specimen(0, 0, 0));
        due("29 the other", x.open(3, 1), 1);
        for (int n : new int[] {-1, 4, MIN, MAX}) {
            refused("29 drawer", PLACE, () -> x.open(n, 3));
        }
        for (int n : new int[] {-1, 3, MIN, MAX}) {
            refused("29 kind", NUMBER, () -> x.open(0, n));
        }
        due("29 no change", x.count(4), 5);
    }

    private static void promise30Keep() {
        LotInspector x = office();
        x.product(0, 0, 1, 1);
        x.raw(1, 0, 8);
        x.raw(0, 0, 8);
        x.open(1, 1);
        x.open(2, 2);
        for (int i = 1; i <= 5; i++) {
            due("30 kept", x.keep(0, 1, i), i);
        }
        refused("30 full", STATE, () -> x.keep(0, 1, 0));
        due("30 bad", x.keep(1, 0, 7), 1);
        refused("30 good", UnsupportedOperationException.class, () -> x.keep(1, 1, 7));
        refused("30 not repaired", UnsupportedOperationException.class, () -> x.keep(2, 0, 7));
        for (int i = 2; i <= 5; i++) {
            x.keep(1, 0, 7);
        }
        refused("30 full ahead of not taken", STATE, () -> x.keep(1, 1, 7));
        for (int n : new int[] {-1, 4, MIN, MAX}) {
            refused("30 drawer", PLACE, () -> x.keep(n, 0, 0));
            refused("30 lot", PLACE, () -> x.keep(0, n, 0));
        }
        for (int n : new int[] {-1, 8, MIN, MAX}) {
            refused("30 unit ahead of full", PLACE, () -> x.keep(0, 0, n));
        }
        LotInspector y = office();
        int a = blindLot(y, 1, 2);
        int b = blindLot(y, 2, 2);
        y.product(0, 0, 1, 1);
        int lot = y.make(3, 0, 2, a, b, -1);
        y.open(2, 2);
        y.inspect(lot);
        y.sort(lot);
        y.product(0, 0, 4, 2);
        refused("30 repaired once", UnsupportedOperationException.class, () -> y.keep(2, lot, 0));
        y.product(0, 0, 2, 2);
        y.inspect(lot);
        y.sort(lot);
        refused("30 repaired twice and good", UnsupportedOperationException.class, () -> y.keep(2, lot, 0));
        y.product(0, 0, 4, 2);
        due("30 repaired twice and bad", y.keep(2, lot, 0), 1);
        due("30 its repairs", y.specimen(2, 0, 3), 2);
        due("30 its defects", y.specimen(2, 0, 2), 4);
        due("30 in whatever state", y.keep(0, a, 1), 1);
    }

    private static void promise31Specimen() {
        LotInspector x = office();
        x.product(0, 0, 1, 1);
        x.raw(0, 0, 8);
        x.raw(1, 0, 8);
        x.keep(3, 1, 7);
        x.keep(3, 0, 2);
        x.inspect(1);
        x.sort(1);
        due("31 lot", x.specimen(3, 0, 0), 1);
        due("31 unit", x.specimen(3, 0, 1), 7);
        due("31 defects as they were", x.specimen(3, 0, 2), 1);
        due("31 repairs as they were", x.specimen(3, 0, 3), 0);
        due("31 second", x.specimen(3, 1, 0) * 10 + x.specimen(3, 1, 1), 2);
        x.keep(3, 1, 7);
        due("31 later", x.specimen(3, 2, 2) * 10 + x.specimen(3, 2, 3), 1);
        x.undo();
        x.undo();
        x.undo();
        due("31 does not go back", x.specimen(3, 2, 3), 1);
        for (int n : new int[] {-1, 4, MIN, MAX}) {
            refused("31 drawer", PLACE, () -> x.specimen(n, 0, 4));
        }
        for (int n : new int[] {-1, 3, 5, MIN, MAX}) {
            refused("31 index", PLACE, () -> x.specimen(3, n, 4));
        }
        for (int n : new int[] {-1, 4, MIN, MAX}) {
            refused("31 what", NUMBER, () -> x.specimen(3, 0, n));
        }
    }

    private static void promise32Append() {
        LotInspector x = new LotInspector();
        due("32 none", x.append(0), 0);
        due("32 four", x.append('s' << 24 | 'e' << 16 | 'e' << 8 | 'd'), 4);
        due("32 gaps", x.append(':' << 24 | '7' << 8), 6);
        due("32 last", x.append(';'), 7);
        due("32 in this order", x.run(), 1);
        due("32 as a command", x.count(6), 7);
        due("32 least", x.append(33 << 24), 1);
        due("32 greatest", x.append(126 << 24), 2);
        for (int b : new int[] {1, 32, 127, 128, 255}) {
            for (int shift = 0; shift < 32; shift += 8) {
                int packed = 0x41414141 & ~(255 << shift) | b << shift;
                refused("32 byte " + b, NUMBER, () -> x.append(packed));
            }
        }
        due("32 unchanged", x.count(5), 2);
        for (int i = 6; i <= 58; i += 4) {
            due("32 more", x.append(0x41414141), i);
        }
        refused("32 too many", STATE, () -> x.append(0x41414100));
        refused("32 byte ahead of length", NUMBER, () -> x.append(0x41414101));
        due("32 still", x.count(5), 58);
        due("32 full", x.append(0x41000041), 60);
        due("32 none more", x.append(0), 60);
        refused("32 one too many", STATE, () -> x.append(0x41));
        due("32 no change", x.count(4), 1);
    }

    private static void runs(LotInspector x, String text, int commands) {
        type(x, text);
        due("33 " + text, x.run(), commands);
        due("33 emptied", x.count(5), 0);
        due("34 no error in " + text, x.errorPosition(), -1);
    }

    private static void fails(LotInspector x, String text, Class<?> kind, int position) {
        type(x, text);
        int seed = x.count(6);
        int lots = x.count(0);
        int changes = x.count(4);
        refused("33 " + text, kind, () -> x.run());
        due("33 emptied after " + text, x.count(5), 0);
        due("34 " + text, x.errorPosition(), position);
        due("33 no effect of " + text, x.count(6) == seed && x.count(0) == lots && x.count(4) == changes ? 1 : 0, 1);
    }

    private static void promise33Run() {
        LotInspector x = new LotInspector();
        runs(x, "machine:1,1,0;product:0,0,15,1;raw:1,0,8;inspect:0;", 4);
        due("33 machine", x.unit(0, 0, 1), 1);
        due("33 product", x.policy(0, 2), 1);
        due("33 inspect", x.units(0, 1), 2);
        due("33 one change", x.count(4), 1);
        runs(x, "sort:0;", 1);
        due("33 sort", x.units(0, 1), 0);
        runs(x, "inspect:0;", 1);
        runs(x, "raw:0,3,5;inspect:1;make:0,3,2,1;make:0,3,2,1,0;", 4);
        due("33 two of one part", x.lot(2, 8) * 10 + x.lot(3, 8), 12);
        runs(x, "inspect:2;inspect:3;make:0,3,1,2,3,0;ship:1;", 4);
        due("33 three parts", x.lot(4, 8), 3);
        due("33 ship", x.lot(1, 2), 3);
        runs(x, "seed:99999;", 1);
        due("33 seed", x.count(6), 99999);
        runs(x, "seed:0;seed:1;seed:2;seed:3;seed:4;seed:5;seed:6;seed:7;", 8);
        runs(x, "ship:2;", 1);
        fails(x, "ship:2;", STATE, 0);
        due("33 undone in one", x.undo(), 7);
        due("33 one run is one change", x.lot(2, 2), 1);
        x.undo();
        due("33 eight seeds are one change", x.count(6), 99999);

        LotInspector y = stopped();
        runs(y, "release:0;", 1);
        due("33 release", y.policy(0, 3), 1);
        fails(y, "seed:5;raw:0,0,9;machine:0,2,1;release:0;", STATE, 31);
        due("33 not even a machine", y.machine(0, 0, 0), 0);
        due("33 not worked", y.worked(0), 0);
        fails(y, "seed:5;machine:6,0,0;", STATE, 7);
        fails(y, "product:0,31,0,0;", STATE, 0);
        fails(y, "raw:0,0,0;", STATE, 0);
        fails(y, "seed:7;make:0,0,1,99999;", STATE, 7);
        fails(y, "seed:7;inspect:99999;", STATE, 7);
    }

    private static void promise34ErrorPosition() {
        LotInspector x = new LotInspector();
        due("34 none read", x.errorPosition(), -1);
        String[] texts = {"", "seed", "seed:", "seed:1", "see", "seedx:1;", "seeds:1;", "Seed:1;", "seed;", ":1;", "1;",
            "seed:a;", "seed:;", "seed:1,2;", "seed:12345", "seed:123456;", "seed:01;", "seed:00;", "seed:0;;",
            "seed:1;x", "seed:1;seed", "seed:1;seedy", "seed:1;seed:1", "seed:1;sort", "seed:-1;", "raw:1,2;",
            "raw:1,2", "raw:1,2,", "raw:1,2,3", "raw:1,2,3,", "raw:1,,2;", "make:1,2,3;", "make:1,2,3,4",
            "make:1,2,3,4,5,6,7;", "make:1,2,3,4,5,6", "make:1,2,3,4,-1;", "product:1,2,3;", "machine:1,2,3,4;",
            "inspect:1,2;", "sort:1,2;", "ship:1,2;", "release:1,2;", "raw:1,2,3,4;", "product:1,2,3,4,5;",
            "undo:1;", "complain:0,0;", "save", "seed:1:", "seed:1;~", "machinex", "machin", "raw:10,2x"};
        int[] positions = {0, 4, 5, 6, 0, 0, 0, 0, 4, 0, 0,
            5, 5, 6, 10, 10, 6, 6, 7,
            7, 11, 7, 13, 11, 5, 7,
            7, 8, 9, 9, 6, 10, 12,
            16, 16, 13, 13, 13,
            9, 6, 6, 9, 9, 15,
            0, 0, 0, 6, 7, 0, 0, 8};
        for (int i = 0; i < texts.length; i++) {
            fails(x, texts[i], NUMBER, positions[i]);
        }
        String full = "machine:0,0,0;machine:0,0,0;machine:0,0,0;machine:0,0,0;seed";
        fails(x, full, NUMBER, 60);
        runs(x, "seed:4;", 1);
        fails(x, "seed:5;raw:0,0,201;seed:6;", STATE, 7);
    }

    private static void promise35Report() {
        LotInspector x = office();
        x.raw(0, 0, 50);
        x.raw(1, 3, 200);
        dueText("35 fresh", reportOn(x, 0), "lot 0: product 0, 50 of 50 here, not inspected, waiting");
        x.product(0, 20, 15, 0);
        x.product(3, 10, 15, 1);
        x.inspect(0);
        dueText("35 accepted", reportOn(x, 0), "lot 0: product 0, 50 of 50 here, normal 8/1, found 0, accepted");
        x.inspect(1);
        dueText("35 rejected", reportOn(x, 1), "lot 1: product 3, 168 of 200 here, normal 32/3, found 32, rejected");
        x.sort(1);
        dueText("35 sorted", reportOn(x, 1), "lot 1: product 3, 200 of 200 here, normal 32/3, found 32, waiting");
        x.product(3, 10, 7, 1);
        x.inspect(1);
        dueText("35 tightened", reportOn(x, 1), "lot 1: product 3, 200 of 200 here, tightened 32/2, found 0, accepted");
        x.ship(0);
        dueText("35 shipped", reportOn(x, 0), "lot 0: product 0, 0 of 50 here, normal 8/1, found 0, shipped");
        for (int i = 0; i < 5; i++) {
            x.inspect(x.raw(0, 0, 9));
        }
        dueText("35 reduced", reportOn(x, x.raw(0, 0, 1) - 1),
                "lot 6: product 0, 9 of 9 here, reduced 2/1, found 0, accepted");
        for (int i = 8; i < 24; i++) {
            x.raw(0, 2, 1);
        }
        dueText("35 two digits", reportOn(x, 23), "lot 23: product 2, 1 of 1 here, not inspected, waiting");
        for (int n : new int[] {-1, 24, MIN, MAX}) {
            refused("35 lot", PLACE, () -> x.report(n));
        }
        due("35 stays when refused", x.character(5), '3');
        due("35 no change", x.count(4), 8);
    }

    private static void promise36Character() {
        LotInspector x = new LotInspector();
        refused("36 empty", PLACE, () -> x.character(0));
        x.raw(0, 0, 5);
        due("36 length", x.report(0), "lot 0: product 0, 5 of 5 here, not inspected, waiting".length());
        due("36 first", x.character(0), 'l');
        due("36 last", x.character(x.report(0) - 1), 'g');
        int length = x.report(0);
        for (int n : new int[] {-1, length, MIN, MAX}) {
            refused("36 index", PLACE, () -> x.character(n));
        }
        x.inspect(0);
        due("36 as it was written", x.character(length - 1), 'g');
        x.undo();
        x.undo();
        due("36 does not go back", x.character(4), '0');
    }

    private static void promise37Undo() {
        LotInspector x = office();
        refused("37 fresh", STATE, () -> new LotInspector().undo());
        due("37 four", x.count(4), 4);
        x.seed(1);
        due("37 also if nothing changes", x.count(4), 5);
        for (int i = 0; i < 9; i++) {
            x.seed(10 + i);
        }
        due("37 eight at most", x.count(4), 8);
        for (int i = 7; i >= 0; i--) {
            due("37 left", x.undo(), i);
            due("37 seed", x.count(6), 10 + i);
        }
        refused("37 no more", STATE, () -> x.undo());
        due("37 stays", x.count(6), 10);
        x.seed(77);
        x.seed(78);
        x.undo();
        x.seed(79);
        due("37 another way", x.undo(), 1);
        due("37 back at", x.count(6), 77);
        refused("37 refused calls are no changes", NUMBER, () -> x.seed(-1));
        due("37 still one", x.count(4), 1);

        LotInspector y = office();
        y.product(0, 0, 15, 1);
        y.raw(1, 0, 8);
        y.inspect(0);
        y.sort(0);
        y.undo();
        due("37 sorting", y.units(0, 1) * 100 + y.count(2) * 10 + y.blame(1, 0), 202);
        due("37 defects are back", y.unit(0, 0, 1), 1);
        y.undo();
        due("37 inspecting", y.units(0, 1) + y.lot(0, 3) + y.policy(0, 5) + y.blame(1, 0), 0);
        due("37 the seed", y.count(6), 1);
        refused("37 share", ArithmeticException.class, () -> y.foundShare(0));
        y.undo();
        due("37 raw", y.count(0) + y.worked(1), 0);
        due("37 other lot in its place", y.raw(0, 2, 3), 0);
        due("37 without its defects", y.unit(0, 0, 1) + y.units(0, 1), 0);
        promise37Others();
    }

    private static void promise37Others() {
        LotInspector x = office();
        int a = blindLot(x, 1, 3);
        x.make(0, 3, 2, a, -1, -1);
        due("37 used", x.whereabouts(a, 1), 1001);
        x.undo();
        due("37 making", x.whereabouts(a, 1), 1);
        due("37 no recall", x.recall(a), 1);
        x.ship(a);
        x.complain(a, 2);
        x.undo();
        due("37 complaint", x.count(3) + x.blame(1, 0), 0);
        due("37 again", x.complain(a, 2), 1);
        x.undo();
        x.undo();
        due("37 shipping", x.lot(a, 2) * 10 + x.units(a, 0), 13);
        x.seed(1);
        x.ship(a);
        x.complain(a, 2);
        for (int i = 0; i < 6; i++) {
            x.undo();
        }
        blindLot(x, 1, 3);
        x.ship(0);
        due("37 another lot in its place", x.complain(0, 2), 1);
        x.machine(1, 9, 1);
        x.undo();
        due("37 machine", x.machine(1, 9, 1), 10);
        x.product(3, 7, 1, 1);
        x.undo();
        due("37 product", x.policy(3, 0) * 100 + x.policy(3, 1), 500);
        LotInspector y = stopped();
        y.release(0);
        y.undo();
        due("37 release", y.policy(0, 3), 3);
        y.undo();
        due("37 a memory of four", y.policy(0, 3) * 100 + y.policy(0, 5) * 10 + y.policy(0, 6), 144);
    }

    private static void promise38Save() {
        LotInspector x = office();
        due("38 no lots", x.save(), 0);
        x.raw(1, 0, 8);
        due("38 one lot", x.save(), 1);
        due("38 no change", x.count(4), 5);
        x.raw(1, 0, 8);
        x.undo();
        x.undo();
        due("38 does not go back", x.restore(), 1);
        x.raw(0, 0, 1);
        x.save();
        x.raw(0, 0, 1);
        due("38 in place of what was saved", x.restore(), 2);
    }

    private static void promise39Restore() {
        LotInspector x = office();
        refused("39 nothing saved", STATE, () -> x.restore());
        x.product(0, 0, 15, 1);
        x.raw(1, 0, 8);
        x.inspect(0);
        x.save();
        int seed = x.count(6);
        x.sort(0);
        x.inspect(0);
        x.machine(1, 7, 2);
        x.product(0, 9, 1, 1);
        type(x, "abc");
        x.keep(0, 0, 0);
        x.report(0);
        due("39 lots", x.restore(), 1);
        due("39 changes", x.count(4), 0);
        refused("39 no undo", STATE, () -> x.undo());
        due("39 lot", x.lot(0, 2) * 100 + x.lot(0, 3) * 10 + x.units(0, 1), 212);
        due("39 repairs", x.count(2), 0);
        due("39 blame", x.blame(1, 0), 2);
        due("39 seed", x.count(6), seed);
        due("39 product", x.policy(0, 0), 0);
        due("39 buffer stays", x.count(5), 3);
        due("39 drawer stays", x.open(0, 0), 1);
        due("39 report stays", x.character(0), 'l');
        due("39 machine", x.machine(1, 3, 3), 10);
        due("39 undo of later ones", x.undo(), 0);
        x.sort(0);
        due("39 stays saved", x.restore(), 1);
        due("39 rejected again", x.lot(0, 2), 2);
        due("39 can be undone afterwards", x.sort(0) + x.undo(), 0);
        x.ship(blindLot(x, 1, 2));
        x.complain(1, 0);
        x.save();
        x.complain(1, 1);
        x.restore();
        due("39 complaints", x.count(3), 1);
        refused("39 complained of", STATE, () -> x.complain(1, 0));
        due("39 not complained of", x.complain(1, 1), 2);
    }

    private static void promise40Count() {
        LotInspector x = office();
        x.product(0, 0, 15, 1);
        x.raw(1, 0, 8);
        x.raw(0, 0, 20);
        x.raw(3, 1, 8);
        x.inspect(0);
        x.inspect(2);
        due("40 lots", x.count(0), 3);
        due("40 units", x.count(1), 36);
        due("40 aside", x.count(11), 4);
        x.sort(0);
        x.sort(2);
        due("40 repairs", x.count(2), 8);
        due("40 scrapped", x.count(12), 8);
        due("40 here", x.count(10), 28);
        x.inspect(1);
        x.make(1, 3, 3, 1, -1, -1);
        due("40 used", x.count(13), 3);
        x.ship(1);
        due("40 shipped", x.count(14), 17);
        due("40 complaints", x.count(3), 0);
        due("40 changes", x.count(4), 8);
        type(x, "hello");
        due("40 characters", x.count(5), 5);
        x.seed(123456);
        due("40 seed", x.count(6), 123456);
        for (int n : new int[] {-1, 7, 8, 9, 15, MIN, MAX, MIN + 10}) {
            refused("40 what", NUMBER, () -> x.count(n));
        }
    }

    public static void main(String[] args) {
        face();
        promise1NewObject();
        promise2Machine();
        promise3Worked();
        promise4Product();
        promise5Policy();
        promise6Table();
        promise7Afterwards();
        promise7Memories();
        promise8Release();
        promise9Seed();
        promise10Raw();
        promise11Make();
        promise11Limits();
        promise12Inspect();
        promise13Sort();
        promise13Repeated();
        promise14Ship();
        promise15Complain();
        promise16Lot();
        promise17Units();
        promise18Unit();
        promise19Chance();
        promise20MadeOf();
        promise21Whereabouts();
        promise22Trace();
        promise23Recall();
        promise24Recalled();
        promise25Blame();
        promise26Worst();
        promise27Outgoing();
        promise28FoundShare();
        promise29Open();
        promise30Keep();
        promise31Specimen();
        promise32Append();
        promise33Run();
        promise34ErrorPosition();
        promise35Report();
        promise36Character();
        promise37Undo();
        promise38Save();
        promise39Restore();
        promise40Count();
        System.out.println(wrong + " of " + checks + " checks are wrong");
        if (wrong != 0) {
            System.exit(1);
        }
    }
}

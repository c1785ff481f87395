import java.lang.reflect.InvocationTargetException;
import java.lang.reflect.Method;
import java.util.ArrayList;
import java.util.Arrays;
import java.util.List;
import java.util.Map;
import java.util.Random;
import java.util.TreeMap;

/** Runs of calls on a LotInspector and on the PlainOffice: the answers and the exceptions must be the same. */
public final class RandomRunsTest {
    private static final int RUNS = 600;
    // Nothing is promised after the 512th call: most of them may change something, the others read what came of it.
    private static final int CHANGING = 400;
    private static final int CALLS = 512;

    private static final Map<String, Method> REAL = methodsOf(LotInspector.class);
    private static final Map<String, Method> PLAIN = methodsOf(PlainOffice.class);
    // A name stands here the more often, the more often it is called.
    private static final String[] NAMES = ("machine machine product product seed raw raw raw raw raw make make "
            + "make make make make inspect inspect inspect inspect inspect inspect inspect inspect sort sort sort sort sort "
            + "ship ship complain complain complain complain release release undo undo save restore text append run worked "
            + "policy policy table afterwards afterwards lot lot units units unit unit chance chance madeOf madeOf "
            + "whereabouts whereabouts trace trace trace recall recalled recalled blame worst outgoing foundShare open "
            + "keep keep keep specimen specimen errorPosition report character count count").split(" ");
    private static final String[] READERS = ("lot lot lot policy policy units units unit unit unit unit unit trace trace "
            + "trace trace trace madeOf whereabouts whereabouts recall recalled chance blame worst outgoing foundShare "
            + "worked count count").split(" ");

    // What a run is rich in: rejected lots, deep assemblies, defects that no inspection sees, or nothing.
    private static final int BAD = 1;
    private static final int PARTS = 2;
    private static final int BLIND = 3;

    private final Random random;
    private final int theme;
    private final LotInspector real = new LotInspector();
    private final PlainOffice plain = new PlainOffice();
    private final List<String> told = new ArrayList<>();
    private int wrong;
    private static final Map<String, Integer> SEEN = new TreeMap<>();

    private RandomRunsTest(long seed) {
        random = new Random(seed);
        theme = (int) (seed % 4);
    }

    private static Map<String, Method> methodsOf(Class<?> type) {
        Map<String, Method> methods = new TreeMap<>();
        for (Method m : type.getDeclaredMethods()) {
            if (java.lang.reflect.Modifier.isPublic(m.getModifiers())) {
                methods.put(m.getName(), m);
            }
        }
        return methods;
    }

    private int any(int bound) {
        return random.nextInt(bound);
    }

    private int lots() {
        return plain.count(0);
    }

    /** Mostly a number that is there, at times one just beside, at times a wild one. */
    private int number(int bound) {
        int dice = any(60);
        if (dice == 0) {
            return -1;
        }
        if (dice == 1) {
            return bound;
        }
        if (dice == 2) {
            return random.nextInt();
        }
        return bound < 1 ? 0 : any(bound);
    }

    private int lotNumber(int status) {
        List<Integer> fit = new ArrayList<>();
        for (int l = 0; l < lots(); l++) {
            if (plain.lot(l, 2) == status) {
                fit.add(l);
            }
        }
        return fit.isEmpty() || any(6) == 0 ? number(lots()) : fit.get(any(fit.size()));
    }

    private int unitNumber(int lot) {
        return number(lot >= 0 && lot < lots() ? plain.lot(lot, 1) : 1);
    }

    private int unitIn(int lot, int state) {
        List<Integer> fit = new ArrayList<>();
        for (int u = 0; lot >= 0 && lot < lots() && u < plain.lot(lot, 1); u++) {
            if (plain.unit(lot, u, 0) == state && plain.unit(lot, u, 1) != 0) {
                fit.add(u);
            }
        }
        return fit.isEmpty() || any(8) == 0 ? unitNumber(lot) : fit.get(any(fit.size()));
    }

    private int unitCount() {
        int[] edges = {1, 2, 8, 9, 15, 16, 25, 26, 50, 51, 90, 91, 150, 151, 199, 200};
        return any(20) == 0 ? number(201) : any(3) == 0 ? edges[any(edges.length)] : 1 + any(40);
    }

    private int limit() {
        return any(4) == 0 ? number(31) : theme == BAD ? any(8) : 20 + any(11);
    }

    private int found() {
        return any(3) == 0 ? number(201) : any(4);
    }

    private int period() {
        return any(5) == 0 ? number(51) : theme == BAD ? 1 + any(3) : theme == PARTS ? 4 + any(20) : 1 + any(12);
    }

    private int inspected() {
        return theme == BLIND ? 1 << any(4) : any(2) == 0 ? 15 : number(16);
    }

    private Object[] argumentsOf(String name) {
        int lot = number(lots());
        switch (name) {
            case "machine": return ints(number(6), period(), number(4));
            case "worked": return ints(number(6));
            case "product": return ints(number(4), limit(), inspected(), number(16));
            case "policy": return ints(number(4), number(7));
            case "table": return new Object[] {number(4), unitCount(), number(3), random.nextBoolean()};
            case "afterwards": return ints(number(4), found(), found());
            case "release": return ints(any(3) > 0 ? 0 : number(4));
            case "seed": return ints(any(3) == 0 ? random.nextInt() : any(1000));
            case "raw": return ints(number(6), any(3) == 0 ? number(4) : 0, unitCount());
            case "make": return making();
            case "inspect": return ints(lotNumber(0));
            case "sort": return ints(lotNumber(2));
            case "ship": return ints(lotNumber(1));
            case "complain": lot = lotNumber(3); return ints(lot, unitIn(lot, 4));
            case "lot": return ints(lot, number(10));
            case "units": return ints(lot, number(6) - 1);
            case "unit": return ints(lot, unitNumber(lot), number(4));
            case "chance": return ints(lot, number(3));
            case "madeOf": return ints(lot, unitNumber(lot), any(3) == 0 ? number(4) : 0);
            case "whereabouts": return ints(lot, unitIn(lot, any(2) * 3));
            case "trace": return tracing(lot);
            case "recall": return ints(lot);
            case "recalled": return ints(lot, number(5));
            case "blame": return ints(number(7), number(5) - 1);
            case "worst": return ints(any(2) == 0 ? number(28) : any(5));
            case "outgoing": case "foundShare": return ints(number(4));
            case "open": return ints(number(4), number(3));
            case "keep": return ints(number(4), lot, unitIn(lot, any(5)));
            case "specimen": return ints(number(4), number(5), number(4));
            case "append": return ints(any(2) == 0 ? random.nextInt() : random.nextInt() & 0x7f7f7f7f);
            case "report": return ints(lot);
            case "character": return ints(number(65));
            case "count": return ints(any(20) == 0 ? random.nextInt() : number(16));
            default: return ints();
        }
    }

    private Object[] making() {
        int first = lotNumber(1);
        int second = any(2) == 0 ? -1 : lotNumber(1);
        int third = any(second == -1 ? 8 : 2) > 0 ? -1 : lotNumber(1);
        int size = any(8) == 0 ? unitCount() : 1 + any(6);
        return ints(number(6), any(3) == 0 ? number(4) : 0, size, first, second, third);
    }

    private Object[] tracing(int lot) {
        int unit = unitIn(lot, any(5));
        int kind = number(4);
        if (lot >= 0 && lot < lots() && unit >= 0 && unit < plain.lot(lot, 1) && plain.unit(lot, unit, 1) != 0
                && any(5) > 0) {
            kind = Integer.numberOfTrailingZeros(plain.unit(lot, unit, 1));
        }
        return new Object[] {lot, unit, kind, random.nextBoolean()};
    }

    private static Object[] ints(int... numbers) {
        return Arrays.stream(numbers).boxed().toArray();
    }

    private static Object answer(Method method, Object on, Object[] arguments) {
        try {
            return method.invoke(on, arguments);
        } catch (InvocationTargetException e) {
            if (e.getCause() instanceof Error) {
                throw (Error) e.getCause();
            }
            return e.getCause().getClass().getName();
        } catch (IllegalAccessException e) {
            throw new AssertionError(e);
        }
    }

    private void call(String name, Object... arguments) {
        if (told.size() == CALLS) {
            return;
        }
        Object want = answer(PLAIN.get(name), plain, arguments);
        Object got = answer(REAL.get(name), real, arguments);
        String call = name + Arrays.toString(arguments);
        told.add(call + " = " + got);
        SEEN.merge(name + (want instanceof String ? " throws " + want : " answers"), 1, Integer::sum);
        if (!want.equals(got)) {
            wrong++;
            System.out.println(call + " answered " + got + ", due is " + want);
        }
    }

    /** A text that is mostly right, appended in pieces of one to four characters. */
    private void text() {
        StringBuilder text = new StringBuilder();
        String[] words = "machine product raw make inspect sort ship release seed".split(" ");
        for (int n = 1 + any(6); n > 0; n--) {
            String word = words[any(words.length)];
            String numbers = Arrays.toString(argumentsOf(word)).replaceAll("[\\[\\] ]", "").replaceAll("(,-1)+$", "");
            String command = word + ":" + numbers + ";";
            if (text.length() + command.length() <= 60) {
                text.append(command);
            }
        }
        if (text.length() > 0 && any(4) == 0) {
            String signs = "abz09,;:-R~15";
            int at = any(text.length());
            switch (any(3)) {
                case 0: text.setLength(at); break;
                case 1: text.setCharAt(at, signs.charAt(any(signs.length()))); break;
                default: text.insert(at, signs.charAt(any(signs.length()))); break;
            }
        }
        for (int i = 0; i < text.length(); ) {
            int packed = 0;
            for (int b = 0; b < 4; b++) {
                packed <<= 8;
                if (i < text.length() && any(12) > 0) {
                    packed |= text.charAt(i++);
                }
            }
            call("append", packed);
        }
        call("run");
        call("errorPosition");
    }

    private boolean isRight() {
        // Some runs undo and restore seldom, so that lots become many and old.
        boolean isLong = any(2) == 0;
        for (int m = 0; m < 6; m++) {
            call("machine", argumentsOf("machine"));
        }
        call("product", 0, limit(), inspected() & 15, theme == PARTS ? 15 : any(16));
        while (told.size() < CHANGING && wrong == 0) {
            String name = NAMES[any(NAMES.length)];
            if (isLong && (name.equals("undo") || name.equals("restore")) && any(10) > 0) {
                continue;
            }
            if (theme == BAD && "machine product make".contains(name) && any(8) > 0) {
                continue;
            }
            if (name.equals("text")) {
                text();
            } else {
                call(name, argumentsOf(name));
            }
        }
        while (told.size() < CALLS && wrong == 0) {
            String name = READERS[any(READERS.length)];
            call(name, argumentsOf(name));
        }
        return wrong == 0;
    }

    public static void main(String[] args) {
        for (int run = 0; run < RUNS; run++) {
            RandomRunsTest one = new RandomRunsTest(run);
            if (!one.isRight()) {
                System.out.println("run " + run + ":");
                one.told.forEach(System.out::println);
                System.exit(1);
            }
        }
        if (args.length > 0) {
            SEEN.forEach((what, times) -> System.out.println(what + ": " + times));
        }
        System.out.println(RUNS + " random runs are as the plain office has them");
    }
}

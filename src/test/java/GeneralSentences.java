import java.lang.reflect.Constructor;
import java.lang.reflect.Executable;
import java.lang.reflect.Field;
import java.lang.reflect.Member;
import java.lang.reflect.Method;
import java.lang.reflect.Modifier;
import java.util.Arrays;
import java.util.Map;

/** What the document says of all methods: their signatures, and how they throw. */
final class GeneralSentences extends Offices {
    private static final String UNCHANGED =
            "A method that throws an exception leaves the state unchanged, unless its description says otherwise.";
    private static final String FIRST =
            "If several exceptions are possible, the one listed first in the description of the method is thrown.";
    private static final String SIGNATURE =
            "The constructor and the methods follow, a promise each: the signature, then what it does.";

    static void all() {
        DOCUMENT.leaveOut("The class is not thread-safe.");
        signatures();
        unchanged();
        unchangedAfterRun();
        first();
        firstOfThree();
    }

    private static void signatures() {
        for (Map.Entry<Integer, String> entry : DOCUMENT.signatures().entrySet()) {
            test(entry.getKey(), SIGNATURE, () -> due("the signature", entry.getValue(), likeIt(entry.getValue())));
        }
        test(1, SIGNATURE, () -> {
            due("the class", Modifier.toString(LotInspector.class.getModifiers()), "public final");
            int methods = 0;
            for (Method m : LotInspector.class.getDeclaredMethods()) {
                methods += isOfFace(m) ? 1 : 0;
            }
            int constructors = 0;
            for (Constructor<?> c : LotInspector.class.getDeclaredConstructors()) {
                constructors += isOfFace(c) ? 1 : 0;
            }
            int fields = 0;
            for (Field f : LotInspector.class.getDeclaredFields()) {
                fields += isOfFace(f) ? 1 : 0;
            }
            due("methods that are not private", methods, DOCUMENT.signatures().size() - 1);
            due("constructors that are not private", constructors, 1);
            due("fields that are not private", fields, 0);
        });
    }

    private static boolean isOfFace(Member member) {
        return !member.isSynthetic() && !Modifier.isPrivate(member.getModifiers());
    }

    /** The signature of what the class has of this name, with the names of the arguments that the document gives. */
    private static String likeIt(String signature) {
        String name = signature.substring(0, signature.indexOf('(')).replaceAll(".* ", "");
        String[] arguments = signature.substring(signature.indexOf('(') + 1, signature.indexOf(')')).split(", ");
        if (name.equals("LotInspector")) {
            return name + ofArguments(LotInspector.class.getConstructors()[0], arguments);
        }
        for (Method m : LotInspector.class.getDeclaredMethods()) {
            if (m.getName().equals(name) && Modifier.isPublic(m.getModifiers())) {
                return m.getReturnType().getSimpleName() + " " + name + ofArguments(m, arguments);
            }
        }
        return "no method " + name;
    }

    private static String ofArguments(Executable e, String[] arguments) {
        StringBuilder text = new StringBuilder("(");
        for (int i = 0; i < e.getParameterCount(); i++) {
            String name = i < arguments.length ? arguments[i].replaceAll(".* ", "") : "?";
            text.append(i == 0 ? "" : ", ").append(e.getParameterTypes()[i].getSimpleName()).append(' ').append(name);
        }
        text.append(')');
        String[] thrown = Arrays.stream(e.getExceptionTypes()).map(Class::getSimpleName).toArray(String[]::new);
        return text + (thrown.length == 0 ? "" : " throws " + String.join(", ", thrown));
    }

    private static void throwsUnchanged(int promise, Class<?> kind, Call call) {
        test(promise, UNCHANGED, () -> refused("the call", kind, Offices::busy, call));
    }

    private static void unchanged() {
        throwsUnchanged(2, PLACE, x -> x.machine(6, 1, 1));
        throwsUnchanged(3, PLACE, x -> x.worked(6));
        throwsUnchanged(4, NUMBER, x -> x.product(1, 30, 15, 16));
        throwsUnchanged(5, NUMBER, x -> x.policy(1, 7));
        throwsUnchanged(6, NUMBER, x -> x.table(1, 201, 0, true));
        throwsUnchanged(7, NUMBER, x -> x.afterwards(0, 201, 0));
        throwsUnchanged(8, STATE, x -> x.release(0));
        throwsUnchanged(9, NUMBER, x -> x.seed(-5));
        throwsUnchanged(10, NUMBER, x -> x.raw(1, 1, 201));
        throwsUnchanged(11, STATE, x -> x.make(1, 0, 2, 0, 1, -1));
        throwsUnchanged(12, STATE, x -> x.inspect(3));
        throwsUnchanged(13, STATE, x -> x.sort(6));
        throwsUnchanged(14, STATE, x -> x.ship(3));
        throwsUnchanged(15, NOTHING, x -> x.complain(5, 1));
        throwsUnchanged(16, PLACE, x -> x.lot(8, 0));
        throwsUnchanged(17, NUMBER, x -> x.units(3, 5));
        throwsUnchanged(18, NUMBER, x -> x.unit(3, 1, 4));
        throwsUnchanged(19, STATE, x -> x.chance(7, 0));
        throwsUnchanged(20, NOTHING, x -> x.madeOf(2, 1, 2));
        throwsUnchanged(21, PLACE, x -> x.whereabouts(2, 2));
        throwsUnchanged(22, NOTHING, x -> x.trace(3, 1, 1, true));
        throwsUnchanged(23, PLACE, x -> x.recall(8));
        throwsUnchanged(24, NUMBER, x -> x.recalled(3, -1));
        throwsUnchanged(25, NUMBER, x -> x.blame(7, 0));
        throwsUnchanged(26, NOTHING, x -> x.worst(9));
        throwsUnchanged(27, SHARE, x -> x.outgoing(0));
        throwsUnchanged(28, PLACE, x -> x.foundShare(4));
        throwsUnchanged(29, NUMBER, x -> x.open(3, 3));
        throwsUnchanged(30, NOT_TAKEN, x -> x.keep(1, 0, 0));
        throwsUnchanged(31, PLACE, x -> x.specimen(3, 5, 0));
        throwsUnchanged(32, NUMBER, x -> x.append(0x41420101));
        throwsUnchanged(35, PLACE, x -> x.report(8));
        throwsUnchanged(36, PLACE, x -> x.character(60));
        throwsUnchanged(40, NUMBER, x -> x.count(7));
    }

    private static void unchangedAfterRun() {
        test(33, UNCHANGED, () -> {
            for (String text : new String[] {"seed:9;sort:3;x", "seed:9;sort:3;ship:3;"}) {
                LotInspector x = quiet();
                type(x, text);
                due(text + " throws", thrownBy(x, LotInspector::run),
                        text.endsWith("x") ? NUMBER.getName() : STATE.getName());
                due("the buffer is empty", x.count(5), 0);
                due("the error position", x.errorPosition(), 14);
                due("all the rest", States.withoutText(x), States.withoutText(quiet()));
            }
        });
        test(37, UNCHANGED, () -> refused("undo()", STATE, GeneralSentences::savedAndRestored, LotInspector::undo));
        test(39, UNCHANGED, () -> refused("restore()", STATE, Offices::family, LotInspector::restore));
    }

    private static LotInspector savedAndRestored() {
        LotInspector x = busy();
        x.save();
        x.restore();
        return x;
    }

    private static void throwsFirst(int promise, Class<?> kind, Call call) {
        test(promise, FIRST, () -> refused("the call", kind, Offices::busy, call));
    }

    private static void first() {
        throwsFirst(2, PLACE, x -> x.machine(6, 51, 0));
        throwsFirst(4, PLACE, x -> x.product(4, 31, 0, 0));
        throwsFirst(5, PLACE, x -> x.policy(4, 7));
        throwsFirst(6, PLACE, x -> x.table(4, 201, 0, true));
        throwsFirst(7, PLACE, x -> x.afterwards(4, 201, 0));
        throwsFirst(10, PLACE, x -> x.raw(0, 4, 201));
        throwsFirst(15, STATE, x -> x.complain(0, 2));
        throwsFirst(16, PLACE, x -> x.lot(8, 10));
        throwsFirst(17, PLACE, x -> x.units(8, 5));
        throwsFirst(18, PLACE, x -> x.unit(2, 2, 4));
        throwsFirst(20, PLACE, x -> x.madeOf(2, 2, 2));
        throwsFirst(24, PLACE, x -> x.recalled(8, 5));
        throwsFirst(29, PLACE, x -> x.open(4, 3));
        throwsFirst(31, PLACE, x -> x.specimen(3, 5, 4));
        test(7, FIRST, () -> refused("the call", NUMBER, Offices::stopped, x -> x.afterwards(0, 0, 201)));
        test(32, FIRST, () -> {
            LotInspector x = quiet();
            type(x, "seed:1;seed:2;seed:3;seed:4;seed:5;seed:6;seed:7;seed:8888;");
            due("59 characters", thrownBy(x, y -> y.append(0x41420001)), NUMBER.getName());
        });
        test(33, FIRST, () -> {
            LotInspector x = quiet();
            type(x, "ship:3;ship");
            due("a command that throws ahead of what is no command", thrownBy(x, LotInspector::run), NUMBER.getName());
        });
    }

    private static void firstOfThree() {
        test(10, FIRST, () -> {
            refused("the place ahead of the state", PLACE, Offices::full, x -> x.raw(6, 0, 1));
            refused("the number ahead of the state", NUMBER, Offices::full, x -> x.raw(0, 0, 0));
        });
        test(11, FIRST, () -> {
            refused("the place ahead of the number", PLACE, Offices::busy, x -> x.make(0, 0, 0, 0, 8, 0));
            refused("the place ahead of the state", PLACE, Offices::busy, x -> x.make(0, 0, 1, 3, 4, 8));
            refused("the number ahead of the state", NUMBER, Offices::busy, x -> x.make(0, 0, 1, 3, 3, -1));
        });
        test(19, FIRST, () -> {
            refused("the place ahead of the number", PLACE, Offices::busy, x -> x.chance(8, 3));
            refused("the number ahead of the state", NUMBER, Offices::busy, x -> x.chance(7, 3));
        });
        test(22, FIRST, () -> {
            refused("the place ahead of the number", PLACE, Offices::busy, x -> x.trace(2, 2, 4, true));
            refused("the number ahead of the defect", NUMBER, Offices::busy, x -> x.trace(0, 0, 4, true));
        });
        test(30, FIRST, () -> {
            refused("the place ahead of the state", PLACE, Offices::busy, x -> x.keep(3, 8, 0));
            refused("the state ahead of the kind", STATE, Offices::fullOfBad, x -> x.keep(1, 0, 0));
        });
    }
}

import java.lang.reflect.Constructor;
import java.lang.reflect.Field;
import java.lang.reflect.Method;
import java.lang.reflect.Modifier;
import java.util.Arrays;
import java.util.Set;
import java.util.TreeSet;

/** The face of the class: what the document lists, and nothing else that is not private. */
final class FaceTests {
    private static final String[] FACE = {
        "int feed(int, int, int, int, int)", "boolean end(int)", "int fault(int)", "int text(int)", "int rule(int)",
        "int house(int, int)", "int bearer(int)", "boolean law(int)", "int steps(int, int)", "int stands(int)",
        "int carry(int)", "int rest()", "int gift(int, int)", "int give(int)", "int year()", "boolean faith(int)",
        "int decades(int, long)", "int status(int)", "int undo()", "int log(int, int)", "int route(int)", "int order(int)",
        "int shorter(int, int)", "int roster(int)", "int stood(int, int, int)", "int fits(int, int)", "int ask(int)",
        "int game(int, int, int, int, int)", "int rests(int, int, int)", "int rival(int)", "int meets(int)",
        "int seen(int, int, boolean)", "int who(int, int)", "int odds(int, int)", "int shares(int, int)", "int most(int)",
        "int years(int)", "int waits(int)", "int remains(int)", "int image()", "int back()", "int count(int)",
    };

    private FaceTests() {
    }

    static void runAll() {
        Class<?> face = SaintCarried.class;
        Check.due("face: public and final", face.getModifiers(), Modifier.PUBLIC | Modifier.FINAL);
        methods(face);
        fields(face);
        Constructor<?>[] constructors = face.getDeclaredConstructors();
        Check.due("face: one constructor", constructors.length, 1);
        Check.due("face: it is public", constructors[0].getModifiers(), Modifier.PUBLIC);
        Check.due("face: it takes nothing", constructors[0].getParameterCount(), 0);
        for (Class<?> inside : face.getDeclaredClasses()) {
            int open = inside.getModifiers() & (Modifier.PUBLIC | Modifier.PROTECTED);
            Check.due("face: " + inside + " is not open", open, 0);
            Check.due("face: " + inside + " is static", Modifier.isStatic(inside.getModifiers()), true);
        }
    }

    private static void methods(Class<?> face) {
        Set<String> want = new TreeSet<>(Arrays.asList(FACE));
        Set<String> names = new TreeSet<>();
        Set<String> got = new TreeSet<>();
        for (Method method : face.getDeclaredMethods()) {
            if (!Modifier.isPrivate(method.getModifiers())) {
                Check.due("face: " + method.getName(), method.getModifiers(), Modifier.PUBLIC);
                String types = Arrays.toString(method.getParameterTypes());
                got.add(method.getReturnType() + " " + method.getName() + "(" + types.substring(1, types.length() - 1) + ")");
                names.add(method.getName());
            }
        }
        Check.due("face: methods " + got, got.equals(want), true);
        for (Method method : face.getDeclaredMethods()) {
            boolean isHidden = Modifier.isPrivate(method.getModifiers()) && names.contains(method.getName());
            Check.due("face: no private " + method.getName(), isHidden, false);
        }
    }

    private static void fields(Class<?> face) {
        Set<String> got = new TreeSet<>();
        for (Field field : face.getDeclaredFields()) {
            int modifiers = field.getModifiers();
            if (!Modifier.isPrivate(modifiers)) {
                got.add(field.getName());
                Check.due("face: constant " + field, modifiers, Modifier.PUBLIC | Modifier.STATIC | Modifier.FINAL);
            }
            Check.due("face: static ones are final " + field, Modifier.isStatic(modifiers) && !Modifier.isFinal(modifiers), false);
        }
        Check.due("face: constants " + got, got.equals(new TreeSet<>(Arrays.asList("NONE", "HIDDEN"))), true);
    }
}

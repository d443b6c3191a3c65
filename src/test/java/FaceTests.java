import java.lang.reflect.Constructor;
import java.lang.reflect.Field;
import java.lang.reflect.Method;
import java.lang.reflect.Modifier;
import java.util.Arrays;
import java.util.List;
import java.util.Set;
import java.util.TreeSet;

/** The class has the document's face and no other. */
public final class FaceTests {
    private static final String[] FACE = {
        "int type(int)", "int clear()", "int reads()", "int kind(int,int)", "int wire(int,int,int)", "int of(int,int)",
        "int told(int,int)", "int adder(int)", "int draw(int,int,int)", "int runs(int,int)", "int signal(int,int)",
        "int wrong(int)", "int cures(int)", "int right()", "int terms(int)", "int term(int,int,int)", "int most(int)",
        "int dearest(int,int)", "int value(int,int)", "int stands(int)", "int witness()", "int count(int)",
        "long digest()",
    };

    private final Due due = new Due();

    public static void main(String[] args) {
        new FaceTests().all();
    }

    private void all() {
        methodsAreTheFace();
        membersArePrivate();
        nestedClassesAreStatic();
        constants();
        due.end();
    }

    private void yes(String what, boolean holds) {
        due.is(what, holds ? 1 : 0, 1);
    }

    private void methodsAreTheFace() {
        Set<String> found = new TreeSet<>();
        for (Method method : GateSums.class.getDeclaredMethods()) {
            if (Modifier.isPublic(method.getModifiers())) {
                List<String> parameters = Arrays.stream(method.getParameterTypes()).map(Class::getName).toList();
                found.add(method.getReturnType() + " " + method.getName() + "(" + String.join(",", parameters) + ")");
            }
        }
        yes("the public methods are " + found, found.equals(new TreeSet<>(Arrays.asList(FACE))));
        yes("the class is final", Modifier.isFinal(GateSums.class.getModifiers()));
        Constructor<?>[] constructors = GateSums.class.getDeclaredConstructors();
        due.is("constructors", constructors.length, 1);
        yes("the constructor is public", Modifier.isPublic(constructors[0].getModifiers()));
        due.is("the constructor's parameters", constructors[0].getParameterCount(), 0);
    }

    private void membersArePrivate() {
        Set<String> names = new TreeSet<>();
        for (String method : FACE) {
            names.add(method.substring(method.indexOf(' ') + 1, method.indexOf('(')));
        }
        for (Method method : GateSums.class.getDeclaredMethods()) {
            boolean own = Modifier.isPrivate(method.getModifiers());
            yes(method.getName() + " is private or of the face", own != names.contains(method.getName()));
        }
        Set<String> open = Set.of("NONE", "BAD", "NO", "FULL");
        for (Field field : GateSums.class.getDeclaredFields()) {
            boolean own = Modifier.isPrivate(field.getModifiers());
            yes(field.getName() + " is private or of the face", own != open.contains(field.getName()));
        }
        for (Class<?> nested : GateSums.class.getDeclaredClasses()) {
            for (Method method : nested.getDeclaredMethods()) {
                yes(nested.getName() + " has no " + method.getName(), !names.contains(method.getName()));
            }
        }
    }

    private void nestedClassesAreStatic() {
        for (Class<?> nested : GateSums.class.getDeclaredClasses()) {
            yes(nested.getName() + " is static", Modifier.isStatic(nested.getModifiers()));
            yes(nested.getName() + " is not public", !Modifier.isPublic(nested.getModifiers()));
            due.is(nested.getName() + "'s fields, 20 at most", Math.max(20, own(nested)), 20);
        }
        due.is("its own fields, 20 at most", Math.max(20, own(GateSums.class)), 20);
        yes("12 classes at most", GateSums.class.getDeclaredClasses().length < 12);
    }

    private static long own(Class<?> type) {
        return Arrays.stream(type.getDeclaredFields()).filter(f -> !Modifier.isStatic(f.getModifiers())).count();
    }

    private void constants() {
        due.is("NONE", GateSums.NONE, -1);
        due.is("BAD", GateSums.BAD, -2);
        due.is("NO", GateSums.NO, -3);
        due.is("FULL", GateSums.FULL, -4);
    }
}

import java.lang.reflect.Constructor;
import java.lang.reflect.Field;
import java.lang.reflect.Member;
import java.lang.reflect.Method;
import java.lang.reflect.Modifier;
import java.util.Arrays;
import java.util.Set;
import java.util.TreeSet;

/** The public face: the class has the document's members, and no others that can be seen from outside. */
public final class FaceTest {
    private static final Set<String> METHODS = Set.of(
            "int constructor(int, int)", "int push(int, int)", "int built(int)", "int record(boolean)",
            "int function(int, int)", "int variable(boolean, int)", "int rigid(boolean)", "int level(int)",
            "boolean unify(int, int)", "boolean same(int, long, int, long)", "int look(int, long, int)",
            "int label(int, long, int)", "int scheme(int)", "int quantified(int, int)", "int instance(int)",
            "boolean alike(int, int)", "boolean clear(int, int)", "int count(int)");

    private static final Due DUE = new Due("FaceTest");

    public static void main(String[] args) {
        Class<TypeLoom> face = TypeLoom.class;
        DUE.is("public final class", face.getModifiers(), Modifier.PUBLIC | Modifier.FINAL);
        DUE.is("no class above it but Object", face.getSuperclass() == Object.class, true);
        DUE.is("no interfaces", face.getInterfaces().length, 0);
        constants(face);
        constructors(face);
        methods(face);
        for (Class<?> inside : face.getDeclaredClasses()) {
            insideClass(inside);
        }
        DUE.end();
    }

    private static void constants(Class<TypeLoom> face) {
        Set<String> seen = new TreeSet<>();
        for (Field field : face.getDeclaredFields()) {
            if (Modifier.isPublic(field.getModifiers())) {
                seen.add(Modifier.toString(field.getModifiers()) + " " + field.getType() + " " + field.getName());
            } else {
                isHidden(field);
            }
        }
        same("constants", seen, Set.of("public static final int NONE", "public static final int FULL"));
        DUE.is("NONE", TypeLoom.NONE, -1);
        DUE.is("FULL", TypeLoom.FULL, -2);
    }

    private static void constructors(Class<TypeLoom> face) {
        Constructor<?>[] all = face.getDeclaredConstructors();
        DUE.is("constructors", all.length, 1);
        DUE.is("the constructor's modifiers", all[0].getModifiers(), Modifier.PUBLIC);
        DUE.is("the constructor's parameters", all[0].getParameterCount(), 0);
    }

    private static void methods(Class<TypeLoom> face) {
        Set<String> seen = new TreeSet<>();
        for (Method method : face.getDeclaredMethods()) {
            if (Modifier.isPublic(method.getModifiers())) {
                seen.add(told(method));
                DUE.is(told(method) + " is public alone", method.getModifiers(), Modifier.PUBLIC);
                DUE.is(told(method) + " declares no exceptions", method.getExceptionTypes().length, 0);
            } else {
                isHidden(method);
                isNotOfTheFace(method);
            }
        }
        same("methods", seen, METHODS);
    }

    private static String told(Method method) {
        String parameters = Arrays.toString(method.getParameterTypes());
        return method.getReturnType() + " " + method.getName() + "("
                + parameters.substring(1, parameters.length() - 1) + ")";
    }

    private static void insideClass(Class<?> inside) {
        int modifiers = inside.getModifiers();
        DUE.is(inside + " is static", Modifier.isStatic(modifiers), true);
        DUE.is(inside + " can't be seen", (modifiers & (Modifier.PUBLIC | Modifier.PROTECTED)) == 0, true);
        for (Method method : inside.getDeclaredMethods()) {
            isNotOfTheFace(method);
        }
        for (Field field : inside.getDeclaredFields()) {
            isNotStaticState(field);
        }
    }

    private static void isHidden(Member member) {
        DUE.is(member.getName() + " is private", Modifier.isPrivate(member.getModifiers()), true);
        if (member instanceof Field field) {
            isNotStaticState(field);
        }
    }

    private static void isNotStaticState(Field field) {
        int modifiers = field.getModifiers();
        DUE.is(field + " is no static state", !Modifier.isStatic(modifiers) || Modifier.isFinal(modifiers), true);
    }

    private static void isNotOfTheFace(Method method) {
        boolean clash = METHODS.stream().anyMatch(told -> told.contains(" " + method.getName() + "("));
        DUE.is(method + " bears no name of the face", clash, false);
    }

    private static void same(String what, Set<String> seen, Set<String> due) {
        for (String one : seen) {
            DUE.is(what + ": " + one + " is in the document", due.contains(one), true);
        }
        for (String one : due) {
            DUE.is(what + ": " + one + " is in the class", seen.contains(one), true);
        }
    }
}

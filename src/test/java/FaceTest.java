import java.lang.reflect.Constructor;
import java.lang.reflect.Field;
import java.lang.reflect.Method;
import java.lang.reflect.Modifier;
import java.util.Set;
import java.util.TreeSet;

/** The public face of the document stands whole, and nothing beside it is seen from outside. */
public final class FaceTest {
    private static final String[] METHODS = {
        "int add(int,int,int,int) throws IllegalArgumentException,IllegalStateException",
        "int setClock(int,int,int) throws IndexOutOfBoundsException,IllegalArgumentException",
        "int setDrift(int,int) throws IndexOutOfBoundsException,IllegalArgumentException",
        "long setOffset(int,int) throws IndexOutOfBoundsException,IllegalArgumentException",
        "int link(int,int,int,int) throws IndexOutOfBoundsException,IllegalArgumentException,IllegalStateException",
        "int cut(int,int) throws IndexOutOfBoundsException,IllegalStateException",
        "int tell(int,int,int) throws IndexOutOfBoundsException,IllegalArgumentException,IllegalStateException",
        "int tick(int) throws IllegalArgumentException",
        "int nodes()",
        "int links()",
        "int best(int) throws IndexOutOfBoundsException",
        "int steps(int) throws IndexOutOfBoundsException",
        "int parent(int) throws IndexOutOfBoundsException",
        "int port(int,int) throws IndexOutOfBoundsException",
        "int bestByGraph(int) throws IndexOutOfBoundsException",
        "int stepsByGraph(int) throws IndexOutOfBoundsException",
        "boolean isSettled()",
        "long offset(int) throws IndexOutOfBoundsException",
        "long rate(int) throws IndexOutOfBoundsException",
        "long spread(int) throws IllegalArgumentException",
    };

    private static String names(Class<?>[] types) {
        StringBuilder text = new StringBuilder();
        for (Class<?> type : types) {
            text.append(text.length() == 0 ? "" : ",").append(type.getSimpleName());
        }
        return text.toString();
    }

    private static String told(Method method) {
        String thrown = names(method.getExceptionTypes());
        return method.getReturnType().getSimpleName() + " " + method.getName()
            + "(" + names(method.getParameterTypes()) + ")" + (thrown.isEmpty() ? "" : " throws " + thrown);
    }

    private static void constants(Check check) {
        check.due("NONE", TimeNet.NONE, -1);
        check.due("NO_PORT", TimeNet.NO_PORT, 0);
        check.due("FOLLOWS", TimeNet.FOLLOWS, 1);
        check.due("LEADS", TimeNet.LEADS, 2);
        check.due("RESTS", TimeNet.RESTS, 3);
        Set<String> seen = new TreeSet<>();
        for (Field field : TimeNet.class.getDeclaredFields()) {
            if (!Modifier.isPrivate(field.getModifiers())) {
                seen.add(Modifier.toString(field.getModifiers()) + " " + field.getType() + " " + field.getName());
            }
        }
        Set<String> wanted = new TreeSet<>();
        for (String name : new String[] {"NONE", "NO_PORT", "FOLLOWS", "LEADS", "RESTS"}) {
            wanted.add("public static final int " + name);
        }
        check.judge("the constants", seen.toString(), wanted.toString());
    }

    private static void methods(Check check) {
        Set<String> seen = new TreeSet<>();
        Set<String> publicNames = new TreeSet<>();
        for (Method method : TimeNet.class.getDeclaredMethods()) {
            if (method.isSynthetic() || Modifier.isPrivate(method.getModifiers())) {
                continue;
            }
            check.due(method + " is public and no more", method.getModifiers(), Modifier.PUBLIC);
            seen.add(told(method));
            publicNames.add(method.getName());
        }
        check.judge("the methods", seen.toString(), new TreeSet<>(Set.of(METHODS)).toString());
        for (Method method : TimeNet.class.getDeclaredMethods()) {
            if (Modifier.isPrivate(method.getModifiers())) {
                check.due(method + " bears the name of a public one", publicNames.contains(method.getName()), false);
            }
        }
    }

    public static void main(String[] args) {
        Check check = new Check("FaceTest");
        check.due("the modifiers of the class", TimeNet.class.getModifiers(), Modifier.PUBLIC | Modifier.FINAL);
        Constructor<?>[] constructors = TimeNet.class.getDeclaredConstructors();
        check.due("the constructors", constructors.length, 1);
        check.judge("the constructor", constructors[0].toString(), "public TimeNet()");
        constants(check);
        methods(check);
        check.end();
    }
}

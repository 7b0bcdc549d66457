import java.lang.reflect.Constructor;
import java.lang.reflect.Field;
import java.lang.reflect.Member;
import java.lang.reflect.Method;
import java.lang.reflect.Modifier;
import java.util.Set;
import java.util.TreeSet;

/** The class has just the members of 'The public face', and no private method bears a public one's name. */
public final class FaceTest {
    private static final String[] FACE = {
        "int addRule(int,int,int) IllegalArgumentException IllegalStateException",
        "int dropRule() IllegalStateException",
        "int products()",
        "int addClass(int,int) IllegalArgumentException IllegalStateException",
        "int addLink(int,int,int,int) IndexOutOfBoundsException IllegalArgumentException IllegalStateException",
        "int addField(int,int,int,int,int) IndexOutOfBoundsException IllegalArgumentException IllegalStateException",
        "int addMethod(int,int,int,int,int,int,int) IndexOutOfBoundsException IllegalArgumentException IllegalStateException",
        "int addNew(int,int) IndexOutOfBoundsException IllegalStateException",
        "int addPlain(int,boolean) IndexOutOfBoundsException IllegalStateException",
        "int addArgument(int,int) IndexOutOfBoundsException IllegalStateException",
        "int addFieldOf(int,int) IndexOutOfBoundsException IllegalArgumentException IllegalStateException",
        "int addCall(int,int,int,int) IndexOutOfBoundsException IllegalArgumentException IllegalStateException",
        "int addResult(int,int,int) IndexOutOfBoundsException IllegalArgumentException IllegalStateException",
        "boolean setCondition(int,int,int,int) IndexOutOfBoundsException IllegalArgumentException",
        "int dropResult() IllegalStateException",
        "int count(int) IndexOutOfBoundsException",
        "int presence(int,int) IndexOutOfBoundsException",
        "int parent(int,int) IndexOutOfBoundsException IllegalArgumentException",
        "boolean isBelow(int,int,int) IndexOutOfBoundsException IllegalArgumentException",
        "int find(int,int,boolean,int) IndexOutOfBoundsException IllegalArgumentException",
        "int typeOf(int,int) IndexOutOfBoundsException IllegalArgumentException",
        "int errorCount()",
        "int error(int,int) IndexOutOfBoundsException",
        "int right()",
        "int errorsIn(int) IllegalArgumentException",
        "int culprit()",
        "double share()",
        "long digest()",
    };

    private static final Due due = new Due();

    public static void main(String[] args) {
        Class<?> c = ProductLineChecker.class;
        if (!Modifier.isPublic(c.getModifiers()) || !Modifier.isFinal(c.getModifiers())) {
            due.fail("the class is not public and final");
        }
        checkMethods(c);
        checkConstructors(c);
        for (Field field : c.getDeclaredFields()) {
            checkPrivate(field);
        }
        due.end();
    }

    private static void checkMethods(Class<?> c) {
        Set<String> wanted = new TreeSet<>(Set.of(FACE));
        Set<String> got = new TreeSet<>();
        Set<String> names = new TreeSet<>();
        for (Method method : c.getDeclaredMethods()) {
            if (Modifier.isPublic(method.getModifiers())) {
                got.add(told(method));
                names.add(method.getName());
            } else {
                checkPrivate(method);
            }
        }
        if (!got.equals(wanted)) {
            due.fail("the public methods are " + got + ", due are " + wanted);
        }
        checkNames(c, names, true);
        for (Class<?> inside : c.getDeclaredClasses()) {
            checkNames(inside, names, false);
        }
    }

    private static void checkNames(Class<?> c, Set<String> names, boolean isFace) {
        for (Method method : c.getDeclaredMethods()) {
            boolean isOwn = !isFace || !Modifier.isPublic(method.getModifiers());
            if (isOwn && names.contains(method.getName())) {
                due.fail(method + " bears the name of a public method");
            }
        }
    }

    private static void checkConstructors(Class<?> c) {
        Constructor<?>[] all = c.getDeclaredConstructors();
        if (all.length != 1 || !Modifier.isPublic(all[0].getModifiers()) || all[0].getParameterCount() != 0) {
            due.fail("there is not just one public constructor without parameters");
        }
    }

    private static void checkPrivate(Member member) {
        if (!Modifier.isPrivate(member.getModifiers())) {
            due.fail(member + " is not private");
        }
    }

    private static String told(Method method) {
        StringBuilder text = new StringBuilder(method.getReturnType().getName());
        text.append(' ').append(method.getName()).append('(');
        for (int i = 0; i < method.getParameterCount(); i++) {
            text.append(i == 0 ? "" : ",").append(method.getParameterTypes()[i].getName());
        }
        text.append(')');
        for (Class<?> thrown : method.getExceptionTypes()) {
            text.append(' ').append(thrown.getSimpleName());
        }
        return text.toString();
    }
}

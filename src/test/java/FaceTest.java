import java.lang.reflect.Constructor;
import java.lang.reflect.Field;
import java.lang.reflect.Method;
import java.lang.reflect.Modifier;
import java.util.Set;
import java.util.TreeSet;

/** The public face: every member of the document's, and no other that could be seen from outside. */
public final class FaceTest {
    private static final String[] METHODS = {
        "int feed(int,long)", "int book(int,int,int)", "int fault()", "int about(int,int)", "int now(int)",
        "int taste(boolean)", "int count(int)", "int entry(int,int,int,int)", "long gives(int,int,int)",
        "long givenBy(int,int,int)", "int returns(int,int,int)", "long back(int,int,int)",
        "int meanings(int,int,int)", "int lopsided(int,int)", "int weight(int,int,int,int,int)",
        "int sure(int,int,int,int,int,int)", "int best(int,int,int,int)", "int bridge(int,int,int)",
        "int alike(int,int,int,int)", "int friends(int)", "int pair(int,int,int,int)", "int say(int,int)",
        "int clear()", "int put(int,int,int)", "int chain(int,int,int)", "long across(int,int,int)",
        "int fewest(int,int,long)"};

    private static final Check check = new Check("FaceTest");

    public static void main(String[] args) {
        Class<?> face = WordBridges.class;
        check.holds("public and final", Modifier.isPublic(face.getModifiers()) && Modifier.isFinal(face.getModifiers()));
        methods(face);
        constants(face);
        Constructor<?>[] constructors = face.getDeclaredConstructors();
        check.due("constructors", constructors.length, 1);
        check.holds("public constructor without arguments",
            Modifier.isPublic(constructors[0].getModifiers()) && constructors[0].getParameterCount() == 0);
        for (Class<?> inside : face.getDeclaredClasses()) {
            check.holds(inside + " is static", Modifier.isStatic(inside.getModifiers()));
            check.holds(inside + " has few fields", inside.getDeclaredFields().length <= 30);
        }
        check.holds("few classes", face.getDeclaredClasses().length <= 12);
        check.end();
    }

    private static String told(Method method) {
        StringBuilder told = new StringBuilder(method.getReturnType() + " " + method.getName() + "(");
        for (Class<?> type : method.getParameterTypes()) {
            if (told.charAt(told.length() - 1) != '(') told.append(',');
            told.append(type);
        }
        return told.append(')').toString();
    }

    private static void methods(Class<?> face) {
        Set<String> due = new TreeSet<>(Set.of(METHODS));
        Set<String> names = new TreeSet<>();
        for (String method : METHODS) names.add(method.substring(method.indexOf(' ') + 1, method.indexOf('(')));
        Set<String> seen = new TreeSet<>();
        for (Method method : face.getDeclaredMethods()) {
            boolean hidden = Modifier.isPrivate(method.getModifiers());
            if (!hidden) seen.add(told(method));
            check.holds(method + " has a name of its own", !hidden || !names.contains(method.getName()));
            check.holds(method + " takes seven at most", method.getParameterCount() <= 7);
        }
        check.holds("methods " + seen, seen.equals(due));
        for (Class<?> inside : face.getDeclaredClasses()) {
            for (Method method : inside.getDeclaredMethods()) {
                check.holds(method + " has a name of its own", !names.contains(method.getName()));
                check.holds(method + " takes seven at most", method.getParameterCount() <= 7);
            }
        }
    }

    private static void constants(Class<?> face) {
        Set<String> seen = new TreeSet<>();
        for (Field field : face.getDeclaredFields()) {
            if (Modifier.isPrivate(field.getModifiers())) continue;
            seen.add(Modifier.toString(field.getModifiers()) + " " + field.getType() + " " + field.getName());
        }
        String as = "public static final int ";
        check.holds("constants " + seen,
            seen.equals(Set.of(as + "NONE", as + "UNKNOWN", as + "OUTSIDE", as + "NOT", as + "FULL")));
        check.due("NONE", WordBridges.NONE, -1);
        check.due("UNKNOWN", WordBridges.UNKNOWN, -1001);
        check.due("OUTSIDE", WordBridges.OUTSIDE, -1002);
        check.due("NOT", WordBridges.NOT, -1003);
        check.due("FULL", WordBridges.FULL, -1004);
    }
}

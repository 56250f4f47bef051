import java.lang.reflect.Constructor;
import java.lang.reflect.Field;
import java.lang.reflect.Method;
import java.lang.reflect.Modifier;
import java.util.Set;
import java.util.TreeSet;

/** The class has the document's face and nothing else that is seen from outside. */
public final class FaceTest {
    private static final String[] FACE = {
        "int feed(int,int,int,int,int)", "int end(int)", "int village()", "int fault(int)",
        "int weighed(int,int,int,int,int)", "boolean untell(int)", "int later(int)", "boolean doubt(int,boolean)",
        "int fits(int)", "int fit(int,int,int)", "int span(int,boolean,int)", "int isFalse(int,int)",
        "int fewest(int)", "int sets(int)", "int set(int,int)", "int next(int,int)", "int parts(int,int,int)",
        "int clear(int,int,int)", "int arm(int)", "int swap(int,int,int)", "int owed(int,boolean,int)",
        "int debt(int,boolean,int)", "int joined(boolean,int)", "int lieYear(int,int)",
        "int goods(int,boolean,int,boolean,int)", "int twice(int,int,int,boolean,int)",
        "int ratio(int,int,boolean,int)", "int sum(int,int,boolean,int)", "int thumbs(int)", "int about(int)"};

    public static void main(String[] args) {
        Set<String> wanted = new TreeSet<>(Set.of(FACE));
        wanted.add("field NONE");
        wanted.add("constructor 0");
        Set<String> names = new TreeSet<>();
        Set<String> seen = new TreeSet<>();
        for (Method m : StoneTrust.class.getDeclaredMethods()) {
            if (!Modifier.isPrivate(m.getModifiers())) {
                names.add(m.getName());
                seen.add(text(m));
            }
        }
        for (Field f : StoneTrust.class.getDeclaredFields()) {
            if (!Modifier.isPrivate(f.getModifiers())) {
                seen.add("field " + f.getName());
            }
        }
        for (Constructor<?> c : StoneTrust.class.getDeclaredConstructors()) {
            if (!Modifier.isPrivate(c.getModifiers())) {
                seen.add("constructor " + c.getParameterCount());
            }
        }
        Check.same("the face", seen.toString(), wanted.toString());
        Check.same("final", Modifier.isFinal(StoneTrust.class.getModifiers()), true);
        checkHidden(StoneTrust.class, names);
        for (Class<?> inside : StoneTrust.class.getDeclaredClasses()) {
            Check.same(inside + " is static", Modifier.isStatic(inside.getModifiers()), true);
            checkHidden(inside, names);
        }
        Check.end();
    }

    private static void checkHidden(Class<?> type, Set<String> names) {
        for (Method m : type.getDeclaredMethods()) {
            boolean hidden = Modifier.isPrivate(m.getModifiers()) || type != StoneTrust.class;
            Check.same(type + " hides a public name: " + m.getName(), hidden && names.contains(m.getName()), false);
        }
        for (Field f : type.getDeclaredFields()) {
            boolean open = Modifier.isStatic(f.getModifiers()) && !Modifier.isFinal(f.getModifiers());
            Check.same(type + " has a static field that is not final: " + f.getName(), open, false);
        }
    }

    private static String text(Method m) {
        StringBuilder all = new StringBuilder(m.getReturnType() + " " + m.getName() + "(");
        String comma = "";
        for (Class<?> p : m.getParameterTypes()) {
            all.append(comma).append(p);
            comma = ",";
        }
        return all.append(")").toString();
    }
}

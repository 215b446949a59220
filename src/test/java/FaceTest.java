import java.lang.reflect.Constructor;
import java.lang.reflect.Field;
import java.lang.reflect.Method;
import java.lang.reflect.Modifier;
import java.util.Set;
import java.util.TreeSet;

/** The public face: the document's members with their types, and nothing else that can be seen. */
public final class FaceTest {
    private static final String[] CONSTANTS = {"NONE", "STARTED", "KIND", "FULL", "GARBLED", "SEQ", "LATE", "EARLY",
        "TWICE", "DEAD", "NOTHING", "CAST", "PLACE", "SIZE", "THROWN", "CRAFTED"};
    private static final String[] METHODS = {"int begin int int int", "int wall int", "int door int int",
        "int plate int int", "int place int int", "int late int", "int risk int", "long pack int int int int int",
        "int feed int long", "int step", "int body int int", "int thing int int", "int open int", "int sees int int",
        "int told int int", "int letter int int", "int digest int", "int replay int", "int fall", "int act int int",
        "int hit int int", "int taken int int", "int back int", "int watch int int int", "int fair int int",
        "int tape int int int", "int view int int", "int clear int", "int put int int long", "long at int int",
        "int copy int int int int int", "int play int int int int", "int kept int int", "int toss int", "int count int"};

    public static void main(String[] args) throws IllegalAccessException {
        Class<?> face = RunJudge.class;
        Check.due("public and final", face.getModifiers() & (Modifier.PUBLIC | Modifier.FINAL), Modifier.PUBLIC | Modifier.FINAL);
        checkConstants(face);
        checkMethods(face);
        Check.due("constructors", face.getDeclaredConstructors().length, 1);
        for (Constructor<?> c : face.getDeclaredConstructors()) {
            Check.due("constructor is public, with no argument", Modifier.isPublic(c.getModifiers()) ? c.getParameterCount() : -1, 0);
        }
        for (Class<?> inside : face.getDeclaredClasses()) {
            Check.due(inside + " is static", Modifier.isStatic(inside.getModifiers()) ? 1 : 0, 1);
            Check.due(inside + " is not public", Modifier.isPublic(inside.getModifiers()) ? 1 : 0, 0);
            for (Method m : inside.getDeclaredMethods()) {
                for (String sign : METHODS) Check.due(m + " bears a public name", sign.split(" ")[1].equals(m.getName()) ? 1 : 0, 0);
            }
        }
        Check.end("FaceTest");
    }

    private static void checkConstants(Class<?> face) throws IllegalAccessException {
        Set<String> left = new TreeSet<>(Set.of(CONSTANTS));
        for (Field f : face.getDeclaredFields()) {
            if (Modifier.isPrivate(f.getModifiers())) continue;
            Check.due(f.getName() + " is of the face", left.remove(f.getName()) ? 1 : 0, 1);
        }
        Check.due("constants that are missing: " + left, left.size(), 0);
        for (int i = 0; i < CONSTANTS.length; i++) {
            try {
                Check.due(CONSTANTS[i], face.getField(CONSTANTS[i]).getInt(null), -1 - i);
            } catch (NoSuchFieldException e) {
                Check.due(CONSTANTS[i] + " is there", 0, 1);
            }
        }
    }

    private static void checkMethods(Class<?> face) {
        Set<String> left = new TreeSet<>(Set.of(METHODS));
        Set<String> names = new TreeSet<>();
        for (Method m : face.getDeclaredMethods()) {
            if (Modifier.isPublic(m.getModifiers())) names.add(m.getName());
        }
        for (Method m : face.getDeclaredMethods()) {
            if (Modifier.isPrivate(m.getModifiers())) {
                Check.due(m.getName() + ", private, bears a public name", names.contains(m.getName()) ? 1 : 0, 0);
                continue;
            }
            StringBuilder sign = new StringBuilder(m.getReturnType() + " " + m.getName());
            for (Class<?> p : m.getParameterTypes()) sign.append(" ").append(p);
            Check.due(sign + " is of the face", left.remove(sign.toString()) ? 1 : 0, 1);
            Check.due(sign + " says what it throws", m.getExceptionTypes().length, m.getName().equals("at") ? 2 : 0);
        }
        Check.due("methods that are missing: " + left, left.size(), 0);
    }
}

import java.lang.reflect.Constructor;
import java.lang.reflect.Field;
import java.lang.reflect.Method;
import java.lang.reflect.Modifier;
import java.util.Map;
import java.util.Set;
import java.util.TreeMap;
import java.util.TreeSet;

/** The face of the class is the document's, and nothing else can be seen from outside (rules 1 and 5). */
public final class FaceTest {
    private static final String[] METHODS = {
        "int version(int,int,int)", "int has(int)", "int set(int,int,int)", "int trust(int,int)",
        "int test(int,boolean)", "int tested(int,int)", "int untest()", "long weight(int,int,int)",
        "long odds(int,int,int,int)", "long sorts(int,int)", "long blame(int,int)", "int guess(int)",
        "long hope(int,int)", "int next(int)", "int worst(int,int)", "int mean(int,int)", "int twins(int)",
        "int say(int)", "int wipe()", "int fault()", "int truth()", "int fails(int,int)", "int play(int)",
        "int out(int,int)", "int core(int,int)", "int told(int)"
    };

    public static void main(String[] args) throws Exception {
        Check check = new Check("FaceTest");
        Class<?> face = BrokeWhere.class;
        check.so("public and final", Modifier.isPublic(face.getModifiers()) && Modifier.isFinal(face.getModifiers()));
        methods(check, face);
        constants(check, face);
        Constructor<?>[] made = face.getDeclaredConstructors();
        check.so("one public constructor", made.length == 1 && Modifier.isPublic(made[0].getModifiers())
            && made[0].getParameterCount() == 0);
        for (Class<?> inside : face.getDeclaredClasses()) {
            check.so(inside + " is static and not public", Modifier.isStatic(inside.getModifiers())
                && !Modifier.isPublic(inside.getModifiers()) && !Modifier.isProtected(inside.getModifiers()));
            for (Field f : inside.getDeclaredFields()) {
                check.so(f + " is no static state", !Modifier.isStatic(f.getModifiers())
                    || Modifier.isFinal(f.getModifiers()));
            }
        }
        check.end();
    }

    private static void methods(Check check, Class<?> face) {
        Set<String> seen = new TreeSet<>();
        Set<String> names = new TreeSet<>();
        for (Method m : face.getDeclaredMethods()) {
            if (Modifier.isPublic(m.getModifiers())) {
                StringBuilder s = new StringBuilder(m.getReturnType() + " " + m.getName() + "(");
                for (Class<?> p : m.getParameterTypes()) {
                    s.append(s.charAt(s.length() - 1) == '(' ? "" : ",").append(p);
                }
                seen.add(s + ")");
                names.add(m.getName());
                check.so(m + " throws nothing told", m.getExceptionTypes().length == 0);
            }
        }
        check.so("the document's methods: " + seen, seen.equals(new TreeSet<>(Set.of(METHODS))));
        for (Method m : face.getDeclaredMethods()) {
            if (!Modifier.isPublic(m.getModifiers())) {
                check.so(m + " is private", Modifier.isPrivate(m.getModifiers()));
                check.so(m + " has a name of its own", !names.contains(m.getName()));
            }
            check.so(m + " takes at most seven", m.getParameterCount() <= 7);
        }
        for (Class<?> inside : face.getDeclaredClasses()) {
            for (Method m : inside.getDeclaredMethods()) {
                check.so(m + " has a name of its own", !names.contains(m.getName()));
                check.so(m + " takes at most seven", m.getParameterCount() <= 7);
            }
        }
    }

    private static void constants(Check check, Class<?> face) throws Exception {
        Map<String, Long> due = new TreeMap<>(Map.of("NONE", -6L, "UNKNOWN", -1L, "OUTSIDE", -2L, "STATE", -3L,
            "FULL", -4L, "NO", -5L, "LOST", -1000000000000000000L));
        int fields = 0;
        for (Field f : face.getDeclaredFields()) {
            if (Modifier.isPublic(f.getModifiers())) {
                check.so(f + " is a told constant", due.containsKey(f.getName())
                    && Modifier.isStatic(f.getModifiers()) && Modifier.isFinal(f.getModifiers()));
                check.due(f.getName(), ((Number) f.get(null)).longValue(), due.getOrDefault(f.getName(), 0L));
                Class<?> type = f.getName().equals("LOST") ? long.class : int.class;
                check.so(f + " has its type", f.getType() == type);
                due.remove(f.getName());
            } else {
                check.so(f + " is private", Modifier.isPrivate(f.getModifiers()));
                check.so(f + " is no static state", !Modifier.isStatic(f.getModifiers())
                    || Modifier.isFinal(f.getModifiers()));
                fields += Modifier.isStatic(f.getModifiers()) ? 0 : 1;
            }
        }
        check.so("all constants are there", due.isEmpty());
        check.so("some twenty fields at most", fields <= 20);
    }
}

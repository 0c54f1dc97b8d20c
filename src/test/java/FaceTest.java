import java.lang.reflect.Constructor;
import java.lang.reflect.Field;
import java.lang.reflect.Method;
import java.lang.reflect.Modifier;
import java.util.ArrayList;
import java.util.Collections;
import java.util.List;
import java.util.TreeSet;

/** The face of the class is the document's, and nothing else of it can be seen (LANGUAGE.md, rule 1). */
public final class FaceTest {
    private static final String[] METHODS = {
        "boolean pool(int, int, int)", "int attach(int)", "boolean reserve(int, int)",
        "boolean stranger(int, boolean)", "boolean put(int, int)", "boolean entry(int, int, int)",
        "int check(int)", "boolean boot(int)", "int deliver(int)", "boolean alter(int, boolean)",
        "int tick()", "int crash()", "int message(int, int)", "int station(int, int)",
        "int image(int, int)", "int lease(int, int)", "int journal()",
    };

    public static void main(String[] args) {
        Due.yes("public", Modifier.isPublic(BootNet.class.getModifiers()));
        Due.yes("final", Modifier.isFinal(BootNet.class.getModifiers()));
        methods();
        constructors();
        fields();
        classesInside();
        Due.is("NONE", BootNet.NONE, -1);
        Due.end();
    }

    private static void methods() {
        List<String> seen = new ArrayList<>();
        TreeSet<String> publicNames = new TreeSet<>();
        TreeSet<String> privateNames = new TreeSet<>();
        for (Method m : BootNet.class.getDeclaredMethods()) {
            if (Modifier.isPrivate(m.getModifiers())) {
                privateNames.add(m.getName());
            } else {
                Due.yes(m + " is public", Modifier.isPublic(m.getModifiers()));
                Due.no(m + " is static", Modifier.isStatic(m.getModifiers()));
                publicNames.add(m.getName());
                seen.add(m.getReturnType() + " " + m.getName() + "(" + names(m.getParameterTypes()) + ")");
            }
        }
        List<String> want = new ArrayList<>(List.of(METHODS));
        Collections.sort(want);
        Collections.sort(seen);
        Due.yes("methods are " + seen, seen.equals(want));
        for (Class<?> inside : BootNet.class.getDeclaredClasses()) {
            for (Method m : inside.getDeclaredMethods()) {
                privateNames.add(m.getName());
            }
        }
        privateNames.retainAll(publicNames);
        Due.yes("hidden methods with names of the face: " + privateNames, privateNames.isEmpty());
    }

    private static void constructors() {
        Constructor<?>[] all = BootNet.class.getDeclaredConstructors();
        Due.is("constructors", all.length, 1);
        Due.yes("constructor is public", Modifier.isPublic(all[0].getModifiers()));
        Due.yes("constructor's types", names(all[0].getParameterTypes()).equals("int, int, int"));
    }

    private static void fields() {
        for (Field f : BootNet.class.getDeclaredFields()) {
            boolean none = f.getName().equals("NONE");
            Due.yes(f + " is private, or public NONE",
                none ? Modifier.isPublic(f.getModifiers()) : Modifier.isPrivate(f.getModifiers()));
            if (Modifier.isStatic(f.getModifiers())) {
                Due.yes(f + " is final", Modifier.isFinal(f.getModifiers()));
            }
        }
    }

    private static void classesInside() {
        for (Class<?> c : BootNet.class.getDeclaredClasses()) {
            int flags = c.getModifiers();
            Due.no(c + " is public or protected", Modifier.isPublic(flags) || Modifier.isProtected(flags));
            Due.yes(c + " is static", Modifier.isStatic(flags));
        }
    }

    private static String names(Class<?>[] types) {
        List<String> all = new ArrayList<>();
        for (Class<?> t : types) {
            all.add(t.getName());
        }
        return String.join(", ", all);
    }
}

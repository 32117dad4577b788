import java.lang.reflect.Constructor;
import java.lang.reflect.Field;
import java.lang.reflect.Method;
import java.lang.reflect.Modifier;
import java.util.Set;
import java.util.TreeSet;

/** The class has the document's face, and no other member that is not private. */
final class FaceTest {
    private static final String BAD = "IllegalArgumentException", NONE = "IndexOutOfBoundsException";
    private static final String STAGE = "IllegalStateException", ROOM = "UnsupportedOperationException";

    public static void main(String[] args) {
        int kind = PollAudit.class.getModifiers();
        Check.due("public and final", true, () -> Modifier.isPublic(kind) && Modifier.isFinal(kind));
        Check.due("NONE", -1, () -> PollAudit.NONE);
        Check.due("BLANK", -2, () -> PollAudit.BLANK);
        Check.same("methods", wantedMethods().toString(), methods().toString());
        Check.same("fields", "[BLANK, NONE]", fields().toString());
        Check.same("constructors", "[public PollAudit()]", constructors().toString());
        for (Class<?> inside : PollAudit.class.getDeclaredClasses()) {
            int its = inside.getModifiers();
            Check.due(inside.getName() + " is static, not public", true,
                () -> Modifier.isStatic(its) && !Modifier.isPublic(its) && !Modifier.isProtected(its));
        }
        Check.end();
    }

    private static Set<String> wantedMethods() {
        Set<String> all = new TreeSet<>();
        want(all, "int candidate(int)", BAD, STAGE, ROOM);
        want(all, "int batch(int)", BAD, STAGE, ROOM);
        want(all, "int set(int,int)", NONE, BAD, STAGE);
        want(all, "void fraction(int,int,int)", NONE, BAD, STAGE);
        want(all, "void record(int,int,int)", NONE, STAGE);
        want(all, "int digit(int)", BAD, STAGE, ROOM);
        want(all, "int coins(int,int)", BAD, ROOM);
        want(all, "void start(boolean,boolean)", STAGE);
        want(all, "int draw()", STAGE);
        want(all, "int see(int)", NONE, STAGE);
        want(all, "int counted(int,int)", NONE, BAD, STAGE);
        want(all, "void again()");
        want(all, "int told(int)", NONE);
        want(all, "int of(int,int)", NONE);
        want(all, "int pair(int,int)", NONE);
        want(all, "int ballot(int,int)", NONE);
        want(all, "int digest(int,int)", NONE, BAD);
        want(all, "int risk(int,int,int,int,int)", STAGE, NONE, BAD);
        want(all, "boolean show(int,int)", NONE, STAGE);
        want(all, "int size(int)", NONE);
        want(all, "int limb(int,int)", NONE);
        return all;
    }

    private static void want(Set<String> all, String head, String... thrown) {
        all.add("public " + head + " throws " + String.join(",", thrown));
    }

    private static Set<String> methods() {
        Set<String> all = new TreeSet<>();
        for (Method method : PollAudit.class.getDeclaredMethods()) {
            if (Modifier.isPrivate(method.getModifiers())) {
                continue;
            }
            all.add(Modifier.toString(method.getModifiers()) + " " + method.getReturnType() + " " + method.getName()
                + "(" + names(method.getParameterTypes()) + ") throws " + names(method.getExceptionTypes()));
        }
        return all;
    }

    private static String names(Class<?>[] types) {
        StringBuilder text = new StringBuilder();
        for (Class<?> type : types) {
            text.append(text.length() == 0 ? "" : ",").append(type.getSimpleName());
        }
        return text.toString();
    }

    private static Set<String> fields() {
        Set<String> all = new TreeSet<>();
        for (Field field : PollAudit.class.getDeclaredFields()) {
            if (!Modifier.isPrivate(field.getModifiers())) {
                all.add(field.getName());
            }
        }
        return all;
    }

    private static Set<String> constructors() {
        Set<String> all = new TreeSet<>();
        for (Constructor<?> constructor : PollAudit.class.getDeclaredConstructors()) {
            all.add(constructor.toString());
        }
        return all;
    }
}

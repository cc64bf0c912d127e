import java.lang.reflect.Constructor;
import java.lang.reflect.Field;
import java.lang.reflect.Method;
import java.lang.reflect.Modifier;
import java.util.Arrays;
import java.util.HashSet;
import java.util.Set;
import java.util.TreeSet;

/** The public face of the document, to the letter, and LANGUAGE.md's rules 1, 5 and 11 as far as classes show them. */
public final class FaceTest {
    private static final String[] METHODS = {"int type(int)", "int clear()", "int bed()", "int lie(int,int)", "int turned(int,int)",
        "int now(int)", "int season()", "int makes(int)", "int stuffs(int)", "int undo()", "int again(int)", "int all()",
        "int byTurns(int)", "int reach(int)", "int round(int,int)", "int same()", "int lasts(int)", "int latest()",
        "int plan(int,int)", "int most()", "int hollows(int,int,int)", "int forget()", "int which()",
        "int odds(int,int,int,int,int)", "int rate(int,int)", "int keep(int)", "int back(int)", "int count(int)", "long trace()"};
    private static final Due DUE = new Due("FaceTest");

    public static void main(String[] args) throws ReflectiveOperationException {
        Class<?> face = QuarterTurns.class;
        DUE.holds("public and final", Modifier.isPublic(face.getModifiers()) && Modifier.isFinal(face.getModifiers()));
        DUE.holds("no package", face.getPackageName().isEmpty());
        methods(face);
        constants(face);
        constructors(face);
        for (Class<?> inside : face.getDeclaredClasses()) {
            inside(inside);
        }
        DUE.holds("at most twelve classes", face.getDeclaredClasses().length < 12);
        DUE.end();
    }

    private static void methods(Class<?> face) {
        Set<String> open = new TreeSet<>();
        for (Method method : face.getDeclaredMethods()) {
            if (!Modifier.isPrivate(method.getModifiers())) {
                open.add(method.getReturnType() + " " + method.getName() + parameters(method));
                DUE.holds(method + " is public", Modifier.isPublic(method.getModifiers()));
                DUE.holds(method + " is the object's", !Modifier.isStatic(method.getModifiers()));
            } else {
                DUE.holds(method + " bears a name of its own", !names().contains(method.getName()));
            }
        }
        DUE.holds("the methods are " + open, open.equals(new TreeSet<>(Arrays.asList(METHODS))));
    }

    private static String parameters(Method method) {
        StringBuilder text = new StringBuilder("(");
        for (Class<?> type : method.getParameterTypes()) {
            text.append(text.length() > 1 ? "," : "").append(type);
        }
        return text.append(')').toString();
    }

    private static Set<String> names() {
        Set<String> names = new HashSet<>();
        for (String method : METHODS) {
            names.add(method.substring(method.indexOf(' ') + 1, method.indexOf('(')));
        }
        return names;
    }

    private static void constants(Class<?> face) throws ReflectiveOperationException {
        String[] names = {"BAD", "STATE", "FULL", "NONE", "NO"};
        int[] values = {-1, -2, -3, -9, -1000000};
        int open = 0;
        for (Field field : face.getDeclaredFields()) {
            open += Modifier.isPrivate(field.getModifiers()) ? 0 : 1;
            ownState(field);
        }
        DUE.is("open fields", open, names.length);
        for (int i = 0; i < names.length; i++) {
            Field field = face.getField(names[i]);
            DUE.is(names[i], field.getInt(null), values[i]);
            DUE.holds(names[i] + " is an int", field.getType() == int.class);
        }
    }

    private static void ownState(Field field) {
        if (Modifier.isStatic(field.getModifiers())) {
            DUE.holds(field + " is final", Modifier.isFinal(field.getModifiers()));
            DUE.holds(field + " is a number", field.getType().isPrimitive());
        }
    }

    private static void constructors(Class<?> face) {
        Constructor<?>[] all = face.getDeclaredConstructors();
        DUE.is("constructors", all.length, 1);
        DUE.is("its parameters", all[0].getParameterCount(), 0);
        DUE.holds("it is public", Modifier.isPublic(all[0].getModifiers()));
    }

    private static void inside(Class<?> inside) {
        DUE.holds(inside + " is static", Modifier.isStatic(inside.getModifiers()));
        DUE.holds(inside + " is not public", !Modifier.isPublic(inside.getModifiers()));
        int own = 0;
        for (Field field : inside.getDeclaredFields()) {
            own += Modifier.isStatic(field.getModifiers()) ? 0 : 1;
            ownState(field);
        }
        DUE.holds(inside + " has at most twenty fields", own <= 20);
        for (Method method : inside.getDeclaredMethods()) {
            DUE.holds(method + " bears a name of its own", !names().contains(method.getName()));
            DUE.holds(method + " takes at most seven", method.getParameterCount() <= 7);
        }
    }
}

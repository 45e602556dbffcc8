import java.io.IOException;
import java.lang.reflect.Constructor;
import java.lang.reflect.Field;
import java.lang.reflect.Method;
import java.lang.reflect.Modifier;
import java.nio.file.Files;
import java.nio.file.Path;
import java.util.Arrays;
import java.util.Set;
import java.util.TreeSet;
import java.util.regex.Matcher;
import java.util.regex.Pattern;

/** The public face, and what LANGUAGE.md's rules 1, 2 and 5 say of the members. */
public final class FaceTest {
    private static final Check CHECK = new Check();
    private static final String[] METHODS = {
        "int type(long,int)", "int clear()", "int house()", "int part(int,int)", "int let(int)", "int undo()",
        "int lodge(int)", "int now(int)", "int brings(int,int)", "int shortest(int)", "int round(int)",
        "int standings()", "int apart(int,int)", "int tried(int,int)", "int forget()", "int lodges()",
        "int trial(int)", "int called(int)", "int mark(int,int)", "int keep(int)", "int back(int)",
        "int count(int)", "long trace()",
    };

    public static void main(String[] args) throws IllegalAccessException, IOException {
        document(Path.of("../shared/DOC.md"));
        methods();
        constants();
        constructors();
        insides();
        CHECK.end();
    }

    // The list above was written by hand: it must be the document's own.
    private static void document(Path file) throws IOException {
        if (!Files.exists(file)) {
            System.out.println(file + " is not here: that the face is the document's is not looked at");
            return;
        }
        String text = Files.readString(file);
        int from = text.indexOf("```java");
        String face = text.substring(from, text.indexOf("\n```", from));
        Set<String> due = new TreeSet<>();
        Matcher method = Pattern.compile("public (int|long) (\\w+)\\((.*)\\);").matcher(face);
        while (method.find()) {
            String types = method.group(3).replaceAll(" \\w+(, )?", ",").replaceAll(",$", "");
            due.add(method.group(1) + " " + method.group(2) + "(" + types + ")");
        }
        CHECK.holds("the document's methods are " + due, due.equals(new TreeSet<>(Arrays.asList(METHODS))));
        CHECK.holds("the document's constants", face.contains("int BAD = -1, STATE = -2, FULL = -3, NONE = -9;")
            && face.contains("int NO = -1000000;"));
    }

    private static Set<String> publicNames() {
        Set<String> names = new TreeSet<>();
        for (String method : METHODS) {
            names.add(method.substring(method.indexOf(' ') + 1, method.indexOf('(')));
        }
        return names;
    }

    private static String told(Method method) {
        StringBuilder text = new StringBuilder(method.getReturnType() + " " + method.getName() + "(");
        for (Class<?> type : method.getParameterTypes()) {
            text.append(text.charAt(text.length() - 1) == '(' ? "" : ",").append(type);
        }
        return text.append(')').toString();
    }

    private static void methods() {
        CHECK.holds("the class is public and final", WallMarbles.class.getModifiers() == (Modifier.PUBLIC | Modifier.FINAL));
        Set<String> due = new TreeSet<>(Arrays.asList(METHODS));
        Set<String> names = publicNames();
        for (Method method : WallMarbles.class.getDeclaredMethods()) {
            int modifiers = method.getModifiers();
            if (Modifier.isPublic(modifiers)) {
                CHECK.holds(told(method) + " is of the face", due.remove(told(method)) && modifiers == Modifier.PUBLIC);
            } else {
                CHECK.holds(told(method) + " is private", Modifier.isPrivate(modifiers));
                CHECK.holds(told(method) + " has a name of its own", !names.contains(method.getName()));
            }
        }
        CHECK.holds("all methods are there, but for " + due, due.isEmpty());
    }

    private static void constants() throws IllegalAccessException {
        CHECK.due("BAD", WallMarbles.BAD, -1);
        CHECK.due("STATE", WallMarbles.STATE, -2);
        CHECK.due("FULL", WallMarbles.FULL, -3);
        CHECK.due("NONE", WallMarbles.NONE, -9);
        CHECK.due("NO", WallMarbles.NO, -1000000);
        int open = 0;
        for (Field field : WallMarbles.class.getDeclaredFields()) {
            if (!Modifier.isPrivate(field.getModifiers())) {
                open++;
                CHECK.holds(field.getName() + " is a constant int", field.getType() == int.class
                    && field.getModifiers() == (Modifier.PUBLIC | Modifier.STATIC | Modifier.FINAL));
            }
        }
        CHECK.due("constants of the face", open, 5);
    }

    private static void constructors() {
        Constructor<?>[] all = WallMarbles.class.getDeclaredConstructors();
        CHECK.due("constructors", all.length, 1);
        CHECK.holds("it is public, without parameters",
            all[0].getParameterCount() == 0 && all[0].getModifiers() == Modifier.PUBLIC);
    }

    private static void insides() {
        Class<?>[] inside = WallMarbles.class.getDeclaredClasses();
        CHECK.holds("some twelve classes at most", inside.length + 1 <= 12);
        fieldsOf(WallMarbles.class);
        for (Class<?> one : inside) {
            CHECK.holds(one + " is static, and not public", Modifier.isStatic(one.getModifiers())
                && !Modifier.isPublic(one.getModifiers()) && !Modifier.isProtected(one.getModifiers()));
            fieldsOf(one);
            for (Method method : one.getDeclaredMethods()) {
                CHECK.holds(one + "." + told(method) + " has a name of its own", !publicNames().contains(method.getName()));
            }
        }
    }

    private static void fieldsOf(Class<?> one) {
        int own = 0;
        for (Field field : one.getDeclaredFields()) {
            if (Modifier.isStatic(field.getModifiers())) {
                CHECK.holds(field + " is final", Modifier.isFinal(field.getModifiers()));
            } else {
                own++;
            }
        }
        CHECK.holds(one + " has some twenty fields at most", own <= 20);
    }
}

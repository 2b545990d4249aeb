import java.io.IOException;
import java.lang.reflect.Constructor;
import java.lang.reflect.Field;
import java.lang.reflect.Method;
import java.lang.reflect.Modifier;
import java.nio.file.Files;
import java.nio.file.Path;
import java.util.Arrays;
import java.util.TreeSet;

/** The public face of the class, and of the rules of the language those that can be counted. */
public final class FaceTest {
    private static final String[] METHODS = {
        "int zone(int,int) Argument State", "int need(int,int,boolean) Argument State",
        "int put(int,int,int,int) Argument State", "int drop(int,int) Argument State",
        "boolean update(int) Index", "int zoneHas(int,int) Index Argument", "int record(int,int,int) Index Argument",
        "int bringUp(int) Index", "void setDead(int,boolean) Index", "int ask(int,int,int) Index Argument State",
        "int told(int) Argument", "int neighbour(int,int,boolean) Index Argument", "int resolve(int,int) Argument",
        "int resolveAnew(int,int) Argument", "int forget()", "int pass(int) Argument",
        "int setKey(int,int,int) Index Argument", "void setWindow(int,int,int) Index Argument",
        "int setAnchor(int) Argument", "int trust(int,int) Argument"};
    private static final String[] CONSTANTS = {"NONE -1", "VALUE 0", "ALIAS 1", "TREE 2", "CUT 3", "TRUST 4",
        "FOUND 0", "NO_DATA 1", "NO_NAME 2", "REFERRED 3", "LED 4", "LOST 5", "FAILED 6", "SECURE 0", "INSECURE 1",
        "BOGUS 2"};
    private static final String[] NOT_IN_THE_SOURCE = {"import ", "catch", "finally", "synchronized", "assert ", "->",
        "::", "System.", "Exact(", "equals(", "hashCode(", "toString(", "package ", "protected ", "static {"};

    public static void main(String[] args) throws ReflectiveOperationException, IOException {
        Due due = new Due();
        due.is("final and public", ZoneTree.class.getModifiers() == (Modifier.PUBLIC | Modifier.FINAL), true);
        methods(due);
        constants(due);
        Class<?>[] inside = ZoneTree.class.getDeclaredClasses();
        due.is("few classes", inside.length <= 11, true);
        fields(due, ZoneTree.class);
        for (Class<?> one : inside) {
            due.is(one + " is private and static",
                Modifier.isPrivate(one.getModifiers()) && Modifier.isStatic(one.getModifiers()), true);
            fields(due, one);
        }
        source(due);
        due.end();
    }

    private static void methods(Due due) {
        TreeSet<String> want = new TreeSet<>(Arrays.asList(METHODS));
        TreeSet<String> names = new TreeSet<>();
        for (Method method : ZoneTree.class.getDeclaredMethods()) {
            if (Modifier.isPublic(method.getModifiers())) {
                due.is("a method of the face: " + told(method), want.remove(told(method)), true);
                names.add(method.getName());
            }
        }
        due.is("missing: " + want, want.size(), 0);
        for (Method method : ZoneTree.class.getDeclaredMethods()) {
            boolean isPrivate = Modifier.isPrivate(method.getModifiers()) && !names.contains(method.getName());
            due.is("private, of another name: " + method, isPrivate || names.contains(method.getName()), true);
            due.is("one parameter too many: " + method, method.getParameterCount() <= 7, true);
        }
        Constructor<?>[] made = ZoneTree.class.getDeclaredConstructors();
        due.is("one constructor", made.length == 1 && Modifier.isPublic(made[0].getModifiers())
            && made[0].getParameterCount() == 0, true);
    }

    /** The names of the methods of the face. */
    static String[] names() {
        String[] names = new String[METHODS.length];
        for (int i = 0; i < names.length; i++) {
            names[i] = METHODS[i].substring(METHODS[i].indexOf(' ') + 1, METHODS[i].indexOf('('));
        }
        return names;
    }

    private static String told(Method method) {
        StringBuilder text = new StringBuilder(method.getReturnType().getName() + " " + method.getName() + "(");
        for (Class<?> type : method.getParameterTypes()) {
            text.append(text.charAt(text.length() - 1) == '(' ? "" : ",").append(type.getName());
        }
        text.append(")");
        for (Class<?> thrown : method.getExceptionTypes()) {
            String name = thrown.getSimpleName();
            text.append(name.startsWith("Index") ? " Index" : name.contains("Argument") ? " Argument" : " State");
        }
        return text.toString();
    }

    private static void constants(Due due) throws IllegalAccessException {
        TreeSet<String> want = new TreeSet<>(Arrays.asList(CONSTANTS));
        for (Field field : ZoneTree.class.getDeclaredFields()) {
            if (Modifier.isPublic(field.getModifiers())) {
                String told = field.getName() + " " + field.getInt(null);
                due.is("a constant of the face: " + told, want.remove(told), true);
                due.is("it is final: " + told, Modifier.isFinal(field.getModifiers()), true);
            } else {
                due.is("private: " + field, Modifier.isPrivate(field.getModifiers()), true);
            }
        }
        due.is("missing: " + want, want.size(), 0);
    }

    private static void fields(Due due, Class<?> one) {
        int fields = 0;
        for (Field field : one.getDeclaredFields()) {
            if (Modifier.isStatic(field.getModifiers())) {
                due.is("final: " + field, Modifier.isFinal(field.getModifiers()), true);
            } else {
                fields++;
            }
        }
        due.is("few fields in " + one, fields <= 20, true);
    }

    private static void source(Due due) throws IOException {
        String text = Files.readString(Path.of("src/main/java/ZoneTree.java"));
        for (String word : NOT_IN_THE_SOURCE) {
            due.is("in the source: " + word, text.contains(word), false);
        }
        due.is("signs above 127", text.chars().allMatch(sign -> sign <= 127), true);
    }
}

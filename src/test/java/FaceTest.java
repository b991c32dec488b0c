import java.lang.reflect.Constructor;
import java.lang.reflect.Field;
import java.lang.reflect.Method;
import java.lang.reflect.Modifier;
import java.util.TreeSet;
import java.util.regex.Matcher;
import java.util.regex.Pattern;

/** The public face: its constants, its constructor, its methods as the document lists them, and nothing else. */
public final class FaceTest implements Numbers {
    private static final Check CHECK = new Check();
    private static final Pattern METHOD = Pattern.compile("public (int|long) (\\w+)\\(([^)]*)\\);");

    public static void main(String[] args) throws ReflectiveOperationException {
        type();
        constants();
        constructor();
        methods();
        CHECK.end();
    }

    private static void type() {
        int modifiers = DancedLock.class.getModifiers();
        CHECK.same("the class", Modifier.toString(modifiers), "public final");
        CHECK.same("its package", DancedLock.class.getPackageName(), "");
        for (Class<?> inside : DancedLock.class.getDeclaredClasses()) {
            boolean hidden = !Modifier.isPublic(inside.getModifiers()) && !Modifier.isProtected(inside.getModifiers());
            CHECK.due(inside + " is hidden and static", hidden && Modifier.isStatic(inside.getModifiers()) ? 1 : 0, 1);
        }
    }

    private static void constants() throws ReflectiveOperationException {
        TreeSet<String> names = new TreeSet<>();
        for (Field field : DancedLock.class.getDeclaredFields()) {
            if (!Modifier.isPrivate(field.getModifiers())) {
                names.add(Modifier.toString(field.getModifiers()) + " " + field.getType() + " " + field.getName());
            }
        }
        String all = "[public static final int FULL, public static final int NONE, public static final int OUTSIDE, "
            + "public static final int STATE, public static final int UNKNOWN, public static final long LOST]";
        CHECK.same("the constants", names.toString(), all);
        constant("UNKNOWN", UNKNOWN);
        constant("OUTSIDE", OUTSIDE);
        constant("STATE", STATE);
        constant("FULL", FULL);
        constant("NONE", NONE);
        constant("LOST", LOST);
    }

    private static void constant(String name, long want) throws ReflectiveOperationException {
        CHECK.due(name, DancedLock.class.getField(name).getLong(null), want);
    }

    private static void constructor() {
        Constructor<?>[] all = DancedLock.class.getDeclaredConstructors();
        CHECK.due("constructors", all.length, 1);
        CHECK.same("the constructor", all[0].toString(), "public DancedLock()");
    }

    private static void methods() {
        TreeSet<String> told = new TreeSet<>();
        Matcher line = METHOD.matcher(new Book().face());
        while (line.find()) {
            told.add("public " + line.group(1) + " " + line.group(2) + " " + arguments(line.group(3)));
        }
        CHECK.due("methods that are told", told.size(), 36);
        TreeSet<String> made = new TreeSet<>();
        for (Method method : DancedLock.class.getDeclaredMethods()) {
            if (!Modifier.isPrivate(method.getModifiers()) && !method.isSynthetic()) {
                String modifiers = Modifier.toString(method.getModifiers());
                made.add(modifiers + " " + method.getReturnType() + " " + method.getName() + " "
                    + method.getParameterCount() + " of int");
                for (Class<?> type : method.getParameterTypes()) {
                    CHECK.same("an argument of " + method.getName(), type.getName(), "int");
                }
            }
        }
        CHECK.same("the methods", made.toString(), told.toString());
    }

    /** Every argument that the document tells is an int. */
    private static String arguments(String told) {
        int ints = told.isEmpty() ? 0 : told.split(",").length;
        CHECK.due("ints of (" + told + ")", told.split("int ", -1).length - 1, ints);
        return ints + " of int";
    }
}

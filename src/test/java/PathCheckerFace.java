import java.lang.management.ManagementFactory;
import java.lang.reflect.Constructor;
import java.lang.reflect.Field;
import java.lang.reflect.Method;
import java.lang.reflect.Modifier;
import java.util.Arrays;
import java.util.Set;
import java.util.TreeSet;

/** Whether the class has the face of the document and no more, and how much its calls make. */
public final class PathCheckerFace {
    private static final String[] METHODS = {
        "boolean type(long)", "void wipe()", "int length()",
        "int formula() IllegalArgumentException UnsupportedOperationException",
        "int normal(int) IllegalStateException", "boolean mark(int,int)",
        "boolean link(int,int,boolean)", "int state(int,int)", "boolean endless(int)",
        "boolean keeps(int) IllegalStateException IndexOutOfBoundsException",
        "int breaking() IllegalStateException", "int keeping() IllegalStateException",
        "int witness(int,int) IllegalStateException", "int go(int)", "void clear()",
        "boolean judge(int,int) IllegalStateException IndexOutOfBoundsException"
            + " UnsupportedOperationException"
    };
    private static int wrong = 0;

    public static void main(String[] args) throws Exception {
        classItself();
        methods();
        fieldsAndClasses();
        dearestCallsMakeNothing();
        System.out.println(wrong == 0 ? "face: all as due" : "face: " + wrong + " wrong");
        if (wrong != 0) {
            System.exit(1);
        }
    }

    private static void classItself() throws Exception {
        due("modifiers", Modifier.toString(PathChecker.class.getModifiers()), "public final");
        due("superclass", PathChecker.class.getSuperclass(), Object.class);
        due("interfaces", PathChecker.class.getInterfaces().length, 0);
        due("type parameters", PathChecker.class.getTypeParameters().length, 0);
        due("package", PathChecker.class.getPackageName(), "");
        Constructor<?>[] constructors = PathChecker.class.getDeclaredConstructors();
        due("constructors", constructors.length, 1);
        due("constructor", constructors[0].toString(), "public PathChecker()");
        Field none = PathChecker.class.getDeclaredField("NONE");
        due("NONE", none.toString(), "public static final int PathChecker.NONE");
        due("its value", none.getInt(null), -1);
    }

    private static void methods() {
        Set<String> found = new TreeSet<>();
        Set<String> publicNames = new TreeSet<>();
        for (Method method : PathChecker.class.getDeclaredMethods()) {
            if (!Modifier.isPrivate(method.getModifiers())) {
                due("public", Modifier.toString(method.getModifiers()), "public");
                found.add(told(method));
                publicNames.add(method.getName());
            }
        }
        due("methods", found, new TreeSet<>(Arrays.asList(METHODS)));
        for (Method method : PathChecker.class.getDeclaredMethods()) {
            boolean isPrivate = Modifier.isPrivate(method.getModifiers());
            due("name of " + method, isPrivate && publicNames.contains(method.getName()), false);
        }
    }

    private static String told(Method method) {
        StringBuilder text = new StringBuilder();
        text.append(method.getReturnType()).append(' ').append(method.getName()).append('(');
        for (Class<?> type : method.getParameterTypes()) {
            text.append(text.charAt(text.length() - 1) == '(' ? "" : ",").append(type);
        }
        text.append(')');
        for (Class<?> type : method.getExceptionTypes()) {
            text.append(' ').append(type.getSimpleName());
        }
        return text.toString();
    }

    private static void fieldsAndClasses() {
        for (Field field : PathChecker.class.getDeclaredFields()) {
            boolean hidden = Modifier.isPrivate(field.getModifiers());
            due("private: " + field, hidden || field.getName().equals("NONE"), true);
        }
        for (Class<?> inside : PathChecker.class.getDeclaredClasses()) {
            due("static: " + inside, Modifier.isStatic(inside.getModifiers()), true);
            int open = inside.getModifiers() & (Modifier.PUBLIC | Modifier.PROTECTED);
            due("private or package-visible: " + inside, open, 0);
        }
    }

    /** All calls of a run share one room, so the rows must be made with the object. */
    private static void dearestCallsMakeNothing() {
        PathChecker[] objects = new PathChecker[40];
        for (int k = 0; k < objects.length; k++) {
            objects[k] = new PathChecker();
            callAll(objects[k]);
        }
        com.sun.management.ThreadMXBean meter =
                (com.sun.management.ThreadMXBean) ManagementFactory.getThreadMXBean();
        long id = Thread.currentThread().getId();
        long before = meter.getThreadAllocatedBytes(id);
        // Six rounds of calls more are what an object is used for.
        for (int round = 0; round < 6 * objects.length; round++) {
            callAll(objects[round / 6]);
        }
        long made = meter.getThreadAllocatedBytes(id) - before;
        due("less than a row a round is made: " + made, made < 6 * objects.length * 64, true);
        before = meter.getThreadAllocatedBytes(id);
        for (int count = 0; count < 100; count++) {
            new PathChecker().go(0);
        }
        made = meter.getThreadAllocatedBytes(id) - before;
        due("an object is small: " + made / 100, made / 100 < 32 * 1024, true);
    }

    private static void callAll(PathChecker x) {
        x.type(0x2128467026467126L);
        x.type(0x4672264673290000L);
        x.formula();
        for (int s = 0; s < 6; s++) {
            x.mark(s, 1 << s & 15);
            for (int b = 0; b < 6; b++) {
                x.link(s, b, true);
            }
        }
        for (int s = 0; s < 6; s++) {
            x.keeps(s);
            x.witness(s, -1);
            x.endless(s);
        }
        x.breaking();
        x.keeping();
        x.clear();
        x.go(0);
        x.judge(0, 0);
        x.normal(0);
    }

    private static void due(String what, Object found, Object want) {
        if (!found.equals(want)) {
            wrong++;
            System.out.println(what + ": " + found + ", due is " + want);
        }
    }
}

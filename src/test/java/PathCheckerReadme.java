import java.io.IOException;
import java.lang.reflect.InvocationTargetException;
import java.lang.reflect.Method;
import java.nio.file.Files;
import java.nio.file.Path;
import java.util.ArrayList;
import java.util.List;
import java.util.Set;
import java.util.TreeSet;
import java.util.regex.Matcher;
import java.util.regex.Pattern;

/**
 * Makes the run of calls that README.md shows and compares the answers with those that it shows. It
 * is run from the directory of README.md, so that there is one run only, and not a copy of it.
 */
public final class PathCheckerReadme {
    private static final Path README = Path.of("README.md");
    private static final String FIRST = "PathChecker x = new PathChecker();";
    private static final Pattern ROW =
            Pattern.compile("x\\.(\\w+)\\((.*)\\); +// (throws \\w+|\\S+?)(: .*|)");
    private static int wrong = 0;

    public static void main(String[] args) throws IOException, IllegalAccessException {
        List<String> rows = rowsOfReadme();
        due("README.md shows a run that begins with " + FIRST, rows.isEmpty(), false);
        PathChecker x = new PathChecker();
        Set<String> shown = new TreeSet<>();
        for (String row : rows) {
            Matcher parts = ROW.matcher(row);
            if (parts.matches()) {
                shown.add(parts.group(1));
                due(row, answer(x, parts.group(1), parts.group(2)), parts.group(3));
            } else {
                due(row, "no call with an answer", "x.call(arguments);  // answer: why");
            }
        }
        due("the methods that the run shows", shown, methodsOfFace());
        System.out.println(wrong == 0 ? "readme: " + rows.size() + " calls, all as due"
                : "readme: " + wrong + " wrong");
        if (wrong != 0) {
            System.exit(1);
        }
    }

    /** What stands between the line that makes the object and the end of its block. */
    private static List<String> rowsOfReadme() throws IOException {
        List<String> rows = new ArrayList<>();
        boolean inRun = false;
        for (String line : Files.readAllLines(README)) {
            if (line.startsWith("```")) {
                inRun = false;
            }
            if (inRun) {
                rows.add(line);
            }
            inRun = inRun || line.equals(FIRST);
        }
        return rows;
    }

    private static Set<String> methodsOfFace() {
        Set<String> names = new TreeSet<>();
        for (Method method : PathChecker.class.getMethods()) {
            if (method.getDeclaringClass() == PathChecker.class) {
                names.add(method.getName());
            }
        }
        return names;
    }

    private static String answer(PathChecker x, String name, String list)
            throws IllegalAccessException {
        String[] words = list.isEmpty() ? new String[0] : list.split(", ");
        for (Method method : PathChecker.class.getMethods()) {
            if (method.getName().equals(name) && method.getParameterCount() == words.length) {
                try {
                    Object answer = method.invoke(x, values(method.getParameterTypes(), words));
                    return method.getReturnType() == void.class ? "nothing" : "" + answer;
                } catch (InvocationTargetException e) {
                    return "throws " + e.getCause().getClass().getSimpleName();
                }
            }
        }
        return "no such call";
    }

    private static Object[] values(Class<?>[] types, String[] words) {
        Object[] values = new Object[words.length];
        for (int k = 0; k < words.length; k++) {
            if (types[k] == long.class) {
                values[k] = Long.decode(words[k].replace("L", ""));
            } else if (types[k] == int.class) {
                values[k] = Integer.decode(words[k]);
            } else {
                values[k] = Boolean.valueOf(words[k]);
            }
        }
        return values;
    }

    private static void due(String what, Object found, Object want) {
        if (!found.equals(want)) {
            wrong++;
            System.out.println(what + ": " + found + ", due is " + want);
        }
    }
}

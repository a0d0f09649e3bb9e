import java.io.IOException;
import java.lang.reflect.Method;
import java.lang.reflect.Modifier;
import java.nio.file.Files;
import java.nio.file.Path;
import java.util.ArrayList;
import java.util.List;
import java.util.Set;
import java.util.TreeSet;

/** README.md tells every call and every exception of the class, and its example answers what it says. */
public final class ReadmeTest {
    public static void main(String[] args) throws IOException {
        List<String> readme = Files.readAllLines(Path.of("README.md"));
        tellsEachCall(readme);
        tellsWhatEachCallThrows(readme);
        Check.same("the example", exampleLines(readme), ranLines());
        Check.end();
    }

    private static List<Method> face() {
        List<Method> face = new ArrayList<>();
        for (Method method : RoleAnalyser.class.getDeclaredMethods()) {
            if (Modifier.isPublic(method.getModifiers())) {
                face.add(method);
            }
        }
        return face;
    }

    private static void tellsEachCall(List<String> readme) {
        for (Method method : face()) {
            Check.same("row of " + method.getName(), method.getParameterCount(), parametersTold(readme, method));
        }
    }

    private static int parametersTold(List<String> readme, Method method) {
        String start = "| `" + method.getName() + "(";
        for (String line : readme) {
            if (line.startsWith(start)) {
                String told = line.substring(start.length(), line.indexOf(')'));
                return told.isEmpty() ? 0 : told.split(",").length;
            }
        }
        return -1;
    }

    /** IndexOutOfBounds is told for all calls at once, so it is not looked for at each of them. */
    private static void tellsWhatEachCallThrows(List<String> readme) {
        for (Method method : face()) {
            Set<String> due = new TreeSet<>();
            for (Class<?> thrown : method.getExceptionTypes()) {
                if (thrown != IndexOutOfBoundsException.class) {
                    due.add(thrown.getSimpleName());
                }
            }
            Check.same("exceptions of " + method.getName(), due, exceptionsTold(readme, method.getName()));
        }
    }

    private static Set<String> exceptionsTold(List<String> readme, String name) {
        Set<String> told = new TreeSet<>();
        String exception = "";
        for (String line : readme.subList(readme.indexOf("### What the exceptions say"), readme.size())) {
            String[] cells = line.split("\\|");
            if (cells.length < 4) {
                continue;
            }
            if (!cells[1].isBlank()) {
                exception = cells[1].strip().replace("`", "");
            }
            if (cells[2].contains("`" + name + "`")) {
                told.add(exception);
            }
        }
        return told;
    }

    /** The example's lines that tell an answer, as 'call // answer'. */
    private static List<String> exampleLines(List<String> readme) {
        List<String> lines = new ArrayList<>();
        for (String line : readme.subList(readme.indexOf("```java"), readme.lastIndexOf("```"))) {
            if (line.contains("//")) {
                String call = line.substring(0, line.indexOf(';')).replaceFirst("int \\w+ = ", "");
                String answer = line.substring(line.indexOf("//") + 2).split(":")[0].strip();
                lines.add(call + " // " + answer.replace("RoleAnalyser.NONE", "-1"));
            }
        }
        return lines;
    }

    private static List<String> ranLines() {
        List<String> lines = new ArrayList<>();
        RoleAnalyser x = new RoleAnalyser();
        int chief = x.role();
        lines.add("x.role() // " + chief);
        int clerk = x.role();
        lines.add("x.role() // " + clerk);
        int ann = x.user();
        lines.add("x.user() // " + ann);
        int bob = x.user();
        lines.add("x.user() // " + bob);
        lines.add("x.assign(ann, chief) // " + x.assign(ann, chief));
        lines.add("x.giveRule(chief, 0, 0, clerk) // " + x.giveRule(chief, 0, 0, clerk));
        lines.add("x.distance(bob, clerk) // " + x.distance(bob, clerk));
        lines.add("x.plan(bob, clerk, 0) // " + x.plan(bob, clerk, 0));
        lines.add("x.plan(bob, clerk, 1) // " + x.plan(bob, clerk, 1));
        lines.add("x.distance(bob, chief) // " + x.distance(bob, chief));
        lines.add("x.give(ann, bob, clerk) // " + x.give(ann, bob, clerk));
        lines.add("x.give(ann, bob, clerk) // " + x.give(ann, bob, clerk));
        Check.unsupported("give(bob, ann, clerk)", () -> x.give(bob, ann, clerk));
        lines.add("x.give(bob, ann, clerk) // throws UnsupportedOperationException");
        lines.add("x.grant(clerk, 7) // " + x.grant(clerk, 7));
        int session = x.open(bob);
        lines.add("x.open(bob) // " + session);
        lines.add("x.may(session, 7) // " + x.may(session, 7));
        lines.add("x.activate(session, clerk) // " + x.activate(session, clerk));
        lines.add("x.may(session, 7) // " + x.may(session, 7));
        lines.add("x.remove(bob, clerk) // " + x.remove(bob, clerk));
        lines.add("x.active(session) // " + x.active(session));
        return lines;
    }
}

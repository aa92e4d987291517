import java.lang.reflect.Method;
import java.lang.reflect.Modifier;
import java.nio.charset.StandardCharsets;
import java.nio.file.Files;
import java.nio.file.Path;
import java.util.ArrayList;
import java.util.Arrays;
import java.util.List;
import java.util.regex.Matcher;
import java.util.regex.Pattern;

/** README.md: its examples are called one behind the other on one object, and each public call stands in its tables. */
public final class QuarrelsPawnedReadme {
    private static final String README = "README.md";
    private static final String THIS = "src/test/java/QuarrelsPawnedReadme.java";
    private static final int EXAMPLES = 37;

    private static final Pattern CALL = Pattern.compile("port\\.(\\w+)\\((.*)\\);\\s*// (-?\\d+|true|false)(: .*)?");
    private static final Pattern READ = Pattern.compile("read\\(port, \"(.*)\"\\);\\s*// (-?\\d+)(: .*)?");

    private static int wrong = 0;
    private static int examples = 0;

    private static void need(boolean so, String what) {
        if (!so) {
            wrong++;
            System.out.println(what);
        }
    }

    public static void main(String[] args) throws Exception {
        List<String> readme = Files.readAllLines(Path.of(README), StandardCharsets.US_ASCII);
        String functions = functionsOf(readme);
        need(!functions.isEmpty() && withoutIndent(Files.readAllLines(Path.of(THIS))).contains(functions),
                "the functions of README.md are others than those here");
        runExamples(readme);
        need(examples == EXAMPLES, examples + " examples, not " + EXAMPLES);
        nameEveryCall(readme);
        System.out.println(wrong == 0 ? "all examples answer as README.md says" : wrong + " things of README.md do not hold");
        if (wrong != 0) {
            System.exit(1);
        }
    }

    static int read(QuarrelsPawned port, String text) {
        port.end(0);
        for (int at = 0; at < text.length(); at += 20) {
            port.feed(four(text, at), four(text, at + 4), four(text, at + 8), four(text, at + 12), four(text, at + 16));
        }
        port.end(text.length());
        return port.text();
    }

    static int four(String text, int at) {
        int bytes = 0;
        for (int i = at; i < at + 4; i++) {
            bytes = bytes << 8 | (i < text.length() ? text.charAt(i) : ' ');
        }
        return bytes;
    }

    private static List<List<String>> blocksOf(List<String> readme) {
        List<List<String>> blocks = new ArrayList<>();
        List<String> open = null;
        for (String line : readme) {
            if (line.equals("```java")) {
                open = new ArrayList<>();
            } else if (line.equals("```")) {
                blocks.add(open);
                open = null;
            } else if (open != null) {
                open.add(line);
            }
        }
        return blocks;
    }

    private static String functionsOf(List<String> readme) {
        for (List<String> block : blocksOf(readme)) {
            if (block.get(0).startsWith("static")) {
                return withoutIndent(block);
            }
        }
        return "";
    }

    private static String withoutIndent(List<String> lines) {
        StringBuilder all = new StringBuilder();
        for (String line : lines) {
            all.append(line.trim()).append('\n');
        }
        return all.toString();
    }

    private static void runExamples(List<String> readme) throws Exception {
        QuarrelsPawned port = null;
        for (List<String> block : blocksOf(readme)) {
            for (String line : block.get(0).startsWith("static") ? List.<String>of() : block) {
                if (line.equals("QuarrelsPawned port = new QuarrelsPawned();")) {
                    port = new QuarrelsPawned();
                } else {
                    need(port != null, "ahead of a new object: " + line);
                    runExample(port, line);
                    examples++;
                }
            }
        }
    }

    private static void runExample(QuarrelsPawned port, String line) throws Exception {
        Matcher read = READ.matcher(line);
        Matcher call = CALL.matcher(line);
        if (read.matches()) {
            int got = read(port, read.group(1));
            need(got == Integer.parseInt(read.group(2)), line + " <- answered " + got);
        } else if (call.matches()) {
            Object got = answer(port, call.group(1), call.group(2));
            need(String.valueOf(got).equals(call.group(3)), line + " <- answered " + got);
        } else {
            need(false, "no example: " + line);
        }
    }

    private static Object answer(QuarrelsPawned port, String name, String told) throws Exception {
        String[] parts = told.isEmpty() ? new String[0] : told.split(", ");
        Method method = methodOf(name, parts.length);
        if (method == null) {
            return "nothing: there is no such call";
        }
        Object[] values = new Object[parts.length];
        for (int i = 0; i < parts.length; i++) {
            boolean truth = method.getParameterTypes()[i] == boolean.class;
            values[i] = truth ? (Object) Boolean.valueOf(parts[i])
                    : (Object) (parts[i].equals("NONE") ? QuarrelsPawned.NONE : Integer.parseInt(parts[i]));
        }
        return method.invoke(port, values);
    }

    private static Method methodOf(String name, int count) {
        for (Method method : QuarrelsPawned.class.getDeclaredMethods()) {
            boolean open = Modifier.isPublic(method.getModifiers());
            if (open && method.getName().equals(name) && method.getParameterCount() == count) {
                return method;
            }
        }
        return null;
    }

    /** In the tables a call stands as `name(a, b)`, with as many parts as it takes. */
    private static void nameEveryCall(List<String> readme) {
        List<String> named = new ArrayList<>();
        Pattern cell = Pattern.compile("`(\\w+)\\(([\\w, ]*)\\)`");
        for (String line : readme) {
            String[] cells = line.split("\\|");
            Matcher calls = cell.matcher(line.startsWith("| `") ? cells[1] : "");
            while (calls.find()) {
                int count = calls.group(2).isEmpty() ? 0 : calls.group(2).split(", ").length;
                need(methodOf(calls.group(1), count) != null, "README.md names " + calls.group());
                named.add(calls.group(1));
            }
        }
        String[] names = Arrays.stream(QuarrelsPawned.class.getDeclaredMethods())
                .filter(m -> Modifier.isPublic(m.getModifiers())).map(Method::getName).sorted().toArray(String[]::new);
        String[] told = named.stream().sorted().toArray(String[]::new);
        need(Arrays.equals(names, told), "README.md names " + Arrays.toString(told));
    }
}

import java.lang.reflect.Constructor;
import java.lang.reflect.Field;
import java.lang.reflect.Method;
import java.lang.reflect.Modifier;
import java.nio.charset.StandardCharsets;
import java.nio.file.Files;
import java.nio.file.Path;
import java.util.ArrayList;
import java.util.Arrays;
import java.util.List;
import java.util.Set;
import java.util.TreeSet;
import java.util.regex.Matcher;
import java.util.regex.Pattern;

/** The rules of LANGUAGE.md that can be seen in the source and in the class, and the face of the document. */
public final class QuarrelsPawnedLanguage {
    private static final String SOURCE = "src/main/java/QuarrelsPawned.java";
    private static final String FACE = "quarrel(int,int,int,int)int feed(int,int,int,int,int)int end(int)int text()int "
            + "fault(int)int by(int)boolean pawn(int)boolean redeem(int)int earn(int)boolean day(int)int played(int)int "
            + "years(int,int)int undo()int of(int,int)int is(int)int book(int,int)int foretold(int,int,int)int "
            + "speak(int,int)boolean group(int)int groups(boolean)int cost(int,int)int word(int,int)int "
            + "way(int,int,int)int all()int cut(int,int)int gossips()int cool(int)int earns(int)boolean plan(int,int)int "
            + "best(int,int,boolean)int digit(int,int)boolean tickets(int)int hook(int)int hung(int,int)int look(int)int "
            + "bid(int,boolean)int market(int)int gain()int said(int,int)int whose()int hottest()int silent()int "
            + "ledger(int)int image()int back()int about(int)int";
    private static final Set<String> LIBRARY = new TreeSet<>(Arrays.asList("Arrays.copyOf", "Arrays.fill",
            "System.arraycopy", "Math.min", "Math.max", "Math.abs", "Integer.bitCount", "Integer.numberOfTrailingZeros"));

    private static int wrong = 0;

    private static void need(boolean so, String what) {
        if (!so) {
            wrong++;
            System.out.println(what);
        }
    }

    public static void main(String[] args) throws Exception {
        String source = Files.readString(Path.of(SOURCE), StandardCharsets.US_ASCII);
        String code = withoutComments(source);
        face();
        classes();
        words(code);
        library(code);
        lengths(code);
        System.out.println(wrong == 0 ? "the language is kept to" : wrong + " rules are not kept to");
        if (wrong != 0) {
            System.exit(1);
        }
    }

    private static String withoutComments(String source) {
        String code = Pattern.compile("/\\*.*?\\*/", Pattern.DOTALL).matcher(source).replaceAll(
                m -> m.group().replaceAll("[^\n]", ""));
        return code.replaceAll("//[^\n]*", "");
    }

    private static void face() {
        Class<?> face = QuarrelsPawned.class;
        Set<String> want = new TreeSet<>(Arrays.asList(FACE.split(" ")));
        Set<String> got = new TreeSet<>();
        for (Method m : face.getDeclaredMethods()) {
            if (Modifier.isPublic(m.getModifiers())) {
                List<String> types = new ArrayList<>();
                for (Class<?> t : m.getParameterTypes()) {
                    types.add(t.getName());
                }
                got.add(m.getName() + "(" + String.join(",", types) + ")" + m.getReturnType().getName());
                need(!Modifier.isStatic(m.getModifiers()), m + " is static");
            } else {
                need(Modifier.isPrivate(m.getModifiers()), "rule 1: " + m);
            }
        }
        need(want.equals(got), "the face: " + got);
        need(want.size() == 46, "the document has 46 methods beside the constructor: " + want.size());
        need(Modifier.isFinal(face.getModifiers()) && Modifier.isPublic(face.getModifiers()), "public and final");
        Constructor<?>[] makers = face.getDeclaredConstructors();
        need(makers.length == 1 && Modifier.isPublic(makers[0].getModifiers())
                && makers[0].getParameterCount() == 0, "one public constructor");
        for (Field f : face.getDeclaredFields()) {
            boolean open = f.getName().equals("NONE");
            need(open ? Modifier.isPublic(f.getModifiers()) : Modifier.isPrivate(f.getModifiers()), "rule 1: " + f);
        }
    }

    private static void classes() {
        Set<String> publicNames = new TreeSet<>();
        for (String member : FACE.split(" ")) {
            publicNames.add(member.substring(0, member.indexOf('(')));
        }
        Class<?>[] inside = QuarrelsPawned.class.getDeclaredClasses();
        need(inside.length + 1 <= 12, "rule 11: " + (inside.length + 1) + " classes");
        List<Class<?>> all = new ArrayList<>(Arrays.asList(inside));
        all.add(QuarrelsPawned.class);
        for (Class<?> c : all) {
            int fields = 0;
            for (Field f : c.getDeclaredFields()) {
                boolean fixed = Modifier.isStatic(f.getModifiers());
                fields += fixed ? 0 : 1;
                need(!fixed || Modifier.isFinal(f.getModifiers()), "rule 5: " + f);
                need(!fixed || f.getType() == int.class || f.getType() == String.class, "rule 5: " + f);
            }
            need(fields <= 20, "rule 11: " + fields + " fields in " + c);
            for (Method m : c.getDeclaredMethods()) {
                need(m.getParameterCount() <= 7, "rule 11: " + m);
                need(!m.isSynthetic(), "made by the compiler: " + m);
                need(Modifier.isPublic(m.getModifiers()) || !publicNames.contains(m.getName()), "rule 1: " + m);
            }
            if (c != QuarrelsPawned.class) {
                int m = c.getModifiers();
                need(Modifier.isStatic(m) && Modifier.isPrivate(m) && Modifier.isFinal(m), "rule 1: " + c);
            }
        }
    }

    private static void words(String code) {
        for (String word : new String[] {"throw", "throws", "try", "catch", "finally", "synchronized", "assert",
            "package", "protected", "equals", "hashCode", "toString", "instanceof", "Object", "double", "float",
            "Random", "Thread", "File", "native", "volatile", "var", "yield", "Exact"}) {
            need(!Pattern.compile("\\b" + word + "\\b").matcher(code).find(), "a word outside the language: " + word);
        }
        need(!code.contains("->") && !code.contains("::"), "rule 2: a lambda");
        need(!Pattern.compile("\"[^\"\n]*\"\\s*\\+|\\+\\s*\"").matcher(code).find(), "rule 10: texts joined by +");
        need(!Pattern.compile("while \\(true\\)|for \\(;;").matcher(code).find(), "rule 9: a loop without an end");
        Matcher imports = Pattern.compile("import ([^;]+);").matcher(code);
        while (imports.find()) {
            need(imports.group(1).equals("java.util.Arrays"), "rule 4: import " + imports.group(1));
        }
    }

    private static void library(String code) {
        Matcher calls = Pattern.compile("\\b(Arrays|System|Math|Integer|Long|List|String)\\.(\\w+)").matcher(code);
        while (calls.find()) {
            need(LIBRARY.contains(calls.group()), "rule 4: " + calls.group());
        }
    }

    private static void lengths(String code) {
        String[] lines = code.split("\n", -1);
        int from = -1;
        String indent = "";
        for (int i = 0; i < lines.length; i++) {
            Matcher head = Pattern.compile("^( {4}| {8})(?!return|if|for|while|switch|else|new)[\\w\\[\\]<> ]+\\(.*\\{$")
                    .matcher(lines[i]);
            if (head.find()) {
                from = i;
                indent = head.group(1);
            } else if (from >= 0 && lines[i].equals(indent + "}")) {
                need(i - from <= 60, "rule 11: " + (i - from) + " lines: " + lines[from].trim());
                from = -1;
            }
        }
    }
}

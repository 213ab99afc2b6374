import java.lang.reflect.Field;
import java.lang.reflect.Member;
import java.lang.reflect.Method;
import java.lang.reflect.Modifier;
import java.nio.file.Files;
import java.nio.file.Path;
import java.util.Arrays;
import java.util.HashMap;
import java.util.List;
import java.util.Map;
import java.util.Set;
import java.util.TreeSet;
import java.util.regex.Matcher;
import java.util.regex.Pattern;

/** The rules of LANGUAGE.md that can be read off the source and the classes; the number of the rule stands at each. */
public final class LanguageTest {
    private static final Set<String> FACE = Set.of("int feed(int,int,int,int,int)", "int customs(int)", "int fault(int)",
            "int farm(int,int,int,int,int,int)", "boolean way(int,int,int)", "boolean bargain(int,int,int)", "int plan()",
            "int planned(int,int)", "boolean out()", "boolean breaks(int)", "int day(int)", "int look(int,int)",
            "int owed(int,int)", "int lent(int,int)", "int count(int)");
    private static final Set<String> TYPES = Set.of("int", "long", "short", "byte", "char", "boolean", "String");
    private static final List<String> NO_WORDS = List.of("throw", "throws", "try", "catch", "finally", "synchronized",
            "assert", "import", "package", "equals", "hashCode", "toString", "System", "Arrays", "Object", "Thread", "Exception",
            "Random", "var", "instanceof", "protected", "transient", "volatile", "native");
    private static int wrong = 0;

    public static void main(String[] args) throws Exception {
        String source = Files.readString(Path.of("src/main/java/ThreshRound.java"));
        text(source);
        depth(bare(source));
        face();
        List<Class<?>> inside = Arrays.asList(ThreshRound.class.getDeclaredClasses());
        need(inside.size() <= 11, "rule 11: at most some twelve classes");
        oneClass(ThreshRound.class);
        for (Class<?> c : inside) {
            need(Modifier.isStatic(c.getModifiers()), "rule 2: static: " + c);
            need(!Modifier.isPublic(c.getModifiers()) && !Modifier.isProtected(c.getModifiers()), "rule 1: private: " + c);
            need(c.getDeclaredClasses().length == 0, "rule 2: no deeper class: " + c);
            oneClass(c);
        }
        room(source);
        System.out.println("LanguageTest: " + wrong + " wrong");
        if (wrong != 0) {
            System.exit(1);
        }
    }

    private static void need(boolean holds, String rule) {
        if (!holds) {
            wrong++;
            System.out.println(rule);
        }
    }

    private static void text(String source) {
        need(source.chars().allMatch(c -> c == '\n' || c >= 32 && c < 127), "rule 4: signs of the source");
        String code = bare(source);
        for (String word : NO_WORDS) {
            need(!Pattern.compile("\\b" + word + "\\b").matcher(code).find(), "rules 4, 6: no " + word);
        }
        need(!code.contains("->") && !code.contains("::"), "rule 2: no lambda, no method reference");
        need(!Pattern.compile("static\\s*\\{").matcher(code).find(), "rule 5: no static initialiser");
        need(!Pattern.compile("\"\\s*\\+|\\+\\s*\"").matcher(code).find(), "rule 10: texts are not joined by +");
        need(!Pattern.compile("while \\(true\\)|for \\(;").matcher(code).find(), "rule 9: each loop has an end");
        Matcher uses = Pattern.compile("\\b(Math|Integer|Long)\\.(\\w+)").matcher(code);
        while (uses.find()) {
            need(Set.of("max", "min", "abs", "MAX_VALUE", "MIN_VALUE").contains(uses.group(2)), "rule 4: " + uses.group());
        }
        // an index or a divisor stands nowhere but in the functions that look at it first
        need(count(code, "[^\\s/]\\s*[/%]\\s*[^\\s/]") == 2, "rule 7: n / by in cut and upwards alone");
        need(count(code, "\\w\\[[^\\]]*\\w[^\\]]*\\]") - count(code, "new \\w+(\\[\\w+\\])+") == 8,
                "rule 7: rows are read and written by at and put alone");
        int length = 0;
        for (String line : code.split("\n")) {
            length = line.matches("    (    )?}") || line.matches("    (    )?\\S.*\\{") ? 0 : length + 1;
            need(length <= 60 || line.startsWith("    }"), "rule 11: methods stay short: " + line);
        }
    }

    /** The source without comments and without what its texts say. */
    private static String bare(String source) {
        return source.replaceAll("(?s)/\\*.*?\\*/", "").replaceAll("//[^\n]*", "").replaceAll("\"[^\"\n]*\"", "\"\"");
    }

    private static int count(String code, String pattern) {
        return (int) Pattern.compile(pattern).matcher(code).results().count();
    }

    /** Methods of one name are taken as one, and the one recursion is not counted. */
    private static void depth(String code) {
        Map<String, String> bodies = new HashMap<>();
        Matcher m = Pattern.compile("\n(    |        )(?:\\w+(?:\\[\\])* )*(\\w+)\\([^()]*\\) \\{(.*?)\n\\1\\}", Pattern.DOTALL)
                .matcher(code.replaceAll("(?m)^        (?=[^\n]*class )", "    "));
        while (m.find()) {
            bodies.merge(m.group(2), m.group(3), String::concat);
        }
        need(bodies.keySet().containsAll(Set.of("day", "passDay", "extend", "endOfRow", "muster")), "methods found: " + bodies.keySet());
        for (String method : bodies.keySet()) {
            int deep = depth(method, bodies, 0);
            need(deep <= 8, "rule 11: calls go " + deep + " deep from " + method);
        }
    }

    private static int depth(String method, Map<String, String> bodies, int above) {
        if (above > 20) {
            return 1;
        }
        int most = 0;
        Matcher calls = Pattern.compile("(\\w+)\\(").matcher(bodies.get(method));
        while (calls.find()) {
            if (bodies.containsKey(calls.group(1)) && !calls.group(1).equals(method)) {
                most = Math.max(most, depth(calls.group(1), bodies, above + 1));
            }
        }
        return 1 + most;
    }

    private static void face() throws Exception {
        need(Modifier.isFinal(ThreshRound.class.getModifiers()), "rule 1: final");
        Set<String> found = new TreeSet<>();
        Set<String> names = new TreeSet<>();
        for (Method m : ThreshRound.class.getDeclaredMethods()) {
            if (Modifier.isPublic(m.getModifiers())) {
                found.add(m.toGenericString().replaceAll("public |ThreshRound\\.", ""));
                names.add(m.getName());
            }
        }
        need(found.equals(FACE), "rule 1: the face is " + found);
        for (Method m : ThreshRound.class.getDeclaredMethods()) {
            boolean isPrivate = Modifier.isPrivate(m.getModifiers());
            need(isPrivate || Modifier.isPublic(m.getModifiers()), "rule 1: private: " + m);
            need(!isPrivate || !names.contains(m.getName()), "rule 1: the name of a public one: " + m);
        }
        need(ThreshRound.class.getDeclaredConstructors().length == 1, "rule 1: one constructor");
        for (Field f : ThreshRound.class.getDeclaredFields()) {
            need(Modifier.isPrivate(f.getModifiers()) || f.getName().equals("NONE"), "rule 1: private: " + f);
        }
        need(ThreshRound.class.getField("NONE").getInt(null) == -1, "rule 1: NONE");
    }

    private static void oneClass(Class<?> c) {
        int fields = 0;
        for (Field f : c.getDeclaredFields()) {
            Class<?> type = f.getType();
            Class<?> element = type;
            int dimensions = 0;
            for (; element.isArray(); element = element.getComponentType()) {
                dimensions++;
            }
            boolean known = TYPES.contains(element.getSimpleName()) || element.getEnclosingClass() == ThreshRound.class;
            need(known && dimensions <= 2, "rule 3: " + f);
            need(!Modifier.isStatic(f.getModifiers()) || Modifier.isFinal(f.getModifiers()), "rule 5: final: " + f);
            fields += Modifier.isStatic(f.getModifiers()) ? 0 : 1;
        }
        need(fields <= 20, "rule 11: some twenty fields: " + c);
        for (Method m : c.getDeclaredMethods()) {
            need(m.getParameterCount() <= 7, "rule 11: seven parameters: " + m);
            need(!((Member) m).isSynthetic(), "rule 2: " + m);
        }
    }

    /** All objects are made with the first one; counted with what a run of new objects alone would make. */
    private static void room(String source) throws Exception {
        long[] made = new long[2];
        measure(new ThreshRound(), made);
        System.out.println("a new one: " + made[0] + " objects, " + made[1] + " fields and elements");
        need(made[0] * 513 < 600_000, "rule 12: objects: " + made[0]);
        need(made[1] * 513 < 7_300_000, "rule 12: fields and elements: " + made[1]);
        for (String method : bare(source).split("\n    (?=\\S)|\n        (?=\\w[^;\n]*\\{\n)")) {
            boolean makes = Pattern.compile("\\bnew \\w").matcher(method).find();
            String head = method.strip().split("\n")[0];
            need(!makes || head.matches("(public )?\\w+\\(\\) \\{"), "rule 12: only constructors make objects: " + head);
        }
    }

    private static void measure(Object o, long[] made) throws Exception {
        made[0]++;
        if (o instanceof int[] row) {
            made[1] += row.length;
        } else if (o instanceof boolean[] row) {
            made[1] += row.length;
        } else if (o instanceof int[][] rows) {
            made[1] += rows.length;
            for (int[] row : rows) {
                measure(row, made);
            }
        } else {
            measureFields(o, made);
        }
    }

    private static void measureFields(Object o, long[] made) throws Exception {
        for (Field f : o.getClass().getDeclaredFields()) {
            if (!Modifier.isStatic(f.getModifiers())) {
                made[1]++;
                f.setAccessible(true);
                if (!f.getType().isPrimitive()) {
                    measure(f.get(o), made);
                }
            }
        }
    }
}

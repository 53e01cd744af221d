import java.lang.reflect.Constructor;
import java.lang.reflect.Field;
import java.lang.reflect.Method;
import java.lang.reflect.Modifier;
import java.nio.file.Files;
import java.nio.file.Path;
import java.util.ArrayList;
import java.util.HashMap;
import java.util.HashSet;
import java.util.List;
import java.util.Map;
import java.util.Set;
import java.util.TreeSet;
import java.util.regex.Matcher;
import java.util.regex.Pattern;

/** Holds the class against the rules of LANGUAGE.md that a program can see. */
public final class RulesCheck {
    private static final String FACE = "rise/2 ground/3 thing/2 move/2 of/2 terms/2 feed/5 end/1 row/0 worn/0 law/0 "
            + "fault/0 force/1 warm/3 ray/2 at/2 seen/1 pictures/1 picture/3 hidden/1 water/1 horizon/0 aim/2 loom/2 "
            + "shade/1 cross/2 hours/1 mark/2 level/1 best/1 eyes/2 where/2 sight/3 drop/1 wrong/1 fits/0 likely/0 "
            + "tremble/4 trembled/2 image/1 back/1 count/1 status/0";
    private static final Pattern METHOD = Pattern.compile("^( {4}| {8})(?! )[\\w\\[\\] ]*?(\\w+)\\(.*\\{$");
    private static final Pattern CALL = Pattern.compile("\\b(?<!Math\\.)(?<!Arrays\\.)(\\w+)\\(");
    private static int wrong = 0;

    private static void must(boolean holds, String rule) {
        if (!holds) {
            wrong++;
            System.out.println("broken: " + rule);
        }
    }

    public static void main(String[] args) throws Exception {
        String source = Files.readString(Path.of(args.length > 0 ? args[0] : "src/main/java/RoadWater.java"));
        face();
        inside();
        words(bare(source));
        lengths(source);
        depths(bare(source));
        System.out.println(wrong == 0 ? "rules: kept" : wrong + " rules are broken");
        if (wrong != 0) {
            System.exit(1);
        }
    }

    private static void face() {
        Set<String> due = new TreeSet<>(List.of(FACE.split(" ")));
        Set<String> got = new TreeSet<>();
        for (Method m : RoadWater.class.getDeclaredMethods()) {
            if (Modifier.isPublic(m.getModifiers())) {
                got.add(m.getName() + "/" + m.getParameterCount());
                must(m.getReturnType() == int.class && !Modifier.isStatic(m.getModifiers()), "face: " + m);
            } else {
                must(Modifier.isPrivate(m.getModifiers()) || m.isSynthetic(), "rule 1: " + m);
            }
        }
        must(due.equals(got), "the face's methods: " + got);
        Constructor<?>[] made = RoadWater.class.getDeclaredConstructors();
        must(made.length == 1 && made[0].getParameterCount() == 0 && Modifier.isPublic(made[0].getModifiers()),
                "the face's constructor");
        for (Field f : RoadWater.class.getDeclaredFields()) {
            boolean constant = f.getName().equals("NONE") || f.getName().equals("NOTHING");
            must(Modifier.isPrivate(f.getModifiers()) != constant, "rule 1: " + f);
        }
        must(Modifier.isFinal(RoadWater.class.getModifiers()), "a final class");
    }

    private static void inside() {
        Class<?>[] classes = RoadWater.class.getDeclaredClasses();
        must(classes.length + 1 <= 12, "rule 11: classes");
        Set<String> names = new HashSet<>();
        for (String method : FACE.split(" ")) {
            names.add(method.substring(0, method.indexOf('/')));
        }
        for (Class<?> c : classes) {
            must(Modifier.isStatic(c.getModifiers()), "rule 2: " + c);
            for (Method m : c.getDeclaredMethods()) {
                must(!names.contains(m.getName()), "rule 1, a name of the face: " + m);
                must(m.getParameterCount() <= 7, "rule 11: " + m);
            }
            fields(c);
        }
        fields(RoadWater.class);
    }

    private static void fields(Class<?> c) {
        int own = 0;
        for (Field f : c.getDeclaredFields()) {
            if (!Modifier.isStatic(f.getModifiers())) {
                own++;
            } else {
                must(Modifier.isFinal(f.getModifiers()), "rule 5: " + f);
            }
        }
        must(own <= 20, "rule 11, fields of " + c + ": " + own);
    }

    /** The source without its comments and texts. */
    private static String bare(String source) {
        return source.replaceAll("(?s)/\\*.*?\\*/", "").replaceAll("//[^\n]*", "").replaceAll("\"[^\"\n]*\"", "\"\"");
    }

    private static void words(String code) {
        String[] banned = {"throw", "throws", "try", "catch", "finally", "synchronized", "assert", "volatile", "native",
            "package", "hashCode", "toString", "Object", "Thread", "Random", "protected", "lambda", "var", "record"};
        for (String word : banned) {
            must(!Pattern.compile("\\b" + word + "\\b").matcher(code).find(), "a word: " + word);
        }
        must(!code.contains("->"), "rule 2: a lambda");
        must(!code.contains("::"), "rule 2: a method reference");
        must(!code.contains("Exact"), "rule 4: Exact");
        must(!Pattern.compile("\\+\\s*\"|\"\\s*\\+").matcher(code).find(), "rule 10: texts joined by +");
        Matcher imports = Pattern.compile("import ([^;]*);").matcher(code);
        while (imports.find()) {
            must(imports.group(1).equals("java.util.Arrays"), "an import: " + imports.group(1));
        }
        only(code, "System", "arraycopy");
        only(code, "Arrays", "fill", "copyOf");
        only(code, "Math", "min", "max", "abs");
        only(code, "Integer", "signum", "bitCount");
    }

    private static void only(String code, String owner, String... allowed) {
        Matcher m = Pattern.compile("\\b" + owner + "\\.([A-Za-z]+)(?!;)").matcher(code.replaceAll("import [^;]*;", ""));
        while (m.find()) {
            must(List.of(allowed).contains(m.group(1)), "rule 4: " + owner + "." + m.group(1));
        }
    }

    private static void lengths(String source) {
        String[] lines = source.split("\n");
        int start = -1;
        String stop = "";
        for (int i = 0; i < lines.length; i++) {
            Matcher m = Pattern.compile("^( {4}| {8})(?!.*\\bclass\\b)[^/* ].*\\) \\{$").matcher(lines[i]);
            if (start < 0 && m.find()) {
                start = i;
                stop = m.group(1) + "}";
            } else if (start >= 0 && lines[i].equals(stop)) {
                must(i - start + 1 <= 60, "rule 11, a long method: " + lines[start].trim());
                start = -1;
            }
        }
    }

    /** How deep calls go; by a method's name alone, so it may be told too deep, but never too flat. */
    private static void depths(String code) {
        Map<String, Set<String>> calls = new HashMap<>();
        String[] lines = code.split("\n");
        String name = "";
        String stop = "";
        for (String line : lines) {
            Matcher m = METHOD.matcher(line);
            if (name.isEmpty() && m.find()) {
                name = m.group(2);
                stop = m.group(1) + "}";
                calls.putIfAbsent(name, new HashSet<>());
            } else if (line.equals(stop)) {
                name = "";
                stop = "";
            } else if (!name.isEmpty()) {
                Matcher call = CALL.matcher(line);
                while (call.find()) {
                    calls.get(name).add(call.group(1));
                }
            }
        }
        must(calls.size() > 100, "rule 11: methods found: " + calls.size());
        for (Set<String> called : calls.values()) {
            called.retainAll(calls.keySet());
        }
        Map<String, Set<String>> reached = new HashMap<>();
        for (String from : calls.keySet()) {
            reached.put(from, reach(calls, from));
        }
        for (String from : calls.keySet()) {
            int deep = depth(calls, reached, from, 0);
            must(deep <= 8, "rule 11: calls go " + deep + " deep from " + from);
        }
    }

    private static Set<String> reach(Map<String, Set<String>> calls, String from) {
        Set<String> reached = new HashSet<>();
        List<String> open = new ArrayList<>(calls.get(from));
        while (!open.isEmpty()) {
            String next = open.remove(open.size() - 1);
            if (reached.add(next)) {
                open.addAll(calls.get(next));
            }
        }
        return reached;
    }

    // A call of a method that comes back to the one that calls it is recursion.
    private static int depth(Map<String, Set<String>> calls, Map<String, Set<String>> reached, String from, int above) {
        int deepest = above + 1;
        for (String to : calls.get(from)) {
            if (!reached.get(to).contains(from)) {
                deepest = Math.max(deepest, depth(calls, reached, to, above + 1));
            }
        }
        return deepest;
    }
}

import java.lang.reflect.Field;
import java.lang.reflect.Method;
import java.lang.reflect.Modifier;
import java.nio.file.Files;
import java.nio.file.Path;
import java.util.ArrayList;
import java.util.Arrays;
import java.util.List;
import java.util.TreeSet;
import java.util.regex.Matcher;
import java.util.regex.Pattern;

/** Those rules of LANGUAGE.md that can be seen from the class and its source: the face, the words, the sizes. */
public final class LanguageTests {
    private static final List<String> FACE = List.of(
        "at(int,int):int", "count(int):int", "data(int,int):int", "expand():int", "fault(int,int):int", "letter(int,int):int",
        "parameter(int,int,int):int", "read():int", "ring(int):int", "sign(long):void", "statement(int,int):int");
    private static int wrong = 0;

    public static void main(String[] args) throws Exception {
        face();
        inside();
        source(Files.readString(Path.of("src/main/java/JobText.java")));
        System.out.println(wrong == 0 ? "the rules hold" : wrong + " rules are broken");
        if (wrong != 0) {
            System.exit(1);
        }
    }

    private static void hold(String rule, boolean holds) {
        if (!holds) {
            wrong++;
            System.out.println("broken: " + rule);
        }
    }

    private static void face() {
        TreeSet<String> open = new TreeSet<>();
        TreeSet<String> names = new TreeSet<>();
        for (Method m : JobText.class.getDeclaredMethods()) {
            if (!Modifier.isPrivate(m.getModifiers())) {
                List<String> types = new ArrayList<>();
                for (Class<?> type : m.getParameterTypes()) {
                    types.add(type.getName());
                }
                open.add(m.getName() + "(" + String.join(",", types) + "):" + m.getReturnType().getName());
                names.add(m.getName());
                hold("public: " + m, Modifier.isPublic(m.getModifiers()) && !Modifier.isStatic(m.getModifiers()));
            }
        }
        hold("the face's methods: " + open, open.equals(new TreeSet<>(FACE)));
        for (Method m : JobText.class.getDeclaredMethods()) {
            hold("a private method bears a public one's name: " + m, !Modifier.isPrivate(m.getModifiers()) || !names.contains(m.getName()));
        }
        for (Field f : JobText.class.getDeclaredFields()) {
            hold("private: " + f, Modifier.isPrivate(f.getModifiers()) || f.getName().equals("NONE"));
        }
        hold("one constructor", JobText.class.getDeclaredConstructors().length == 1 && JobText.class.getConstructors().length == 1);
        hold("public and final", Modifier.isPublic(JobText.class.getModifiers()) && Modifier.isFinal(JobText.class.getModifiers()));
        hold("NONE", JobText.NONE == -1);
    }

    private static void inside() {
        Class<?>[] inside = JobText.class.getDeclaredClasses();
        hold("some twelve classes: " + inside.length, inside.length <= 12);
        for (Class<?> c : inside) {
            hold("static: " + c, Modifier.isStatic(c.getModifiers()) && !Modifier.isPublic(c.getModifiers()));
            long fields = Arrays.stream(c.getDeclaredFields()).filter(f -> !Modifier.isStatic(f.getModifiers())).count();
            hold("some twenty fields: " + c, fields <= 20);
            for (Field f : c.getDeclaredFields()) {
                hold("a static field is final: " + f, !Modifier.isStatic(f.getModifiers()) || Modifier.isFinal(f.getModifiers()));
            }
            for (Method m : c.getDeclaredMethods()) {
                hold("at most seven parameters: " + m, m.getParameterCount() <= 7);
                hold("a method inside bears a public one's name: " + m, FACE.stream().noneMatch(s -> s.startsWith(m.getName() + "(")));
            }
        }
    }

    private static void source(String text) {
        String code = text.replaceAll("(?s)/\\*.*?\\*/", "").replaceAll("//[^\n]*", "").replaceAll("\"[^\"\n]*\"", "\"\"").replaceAll("'(\\\\.|[^'\\\\])'", "' '");
        for (String word : new String[] {"throw", "throws", "try", "catch", "finally", "synchronized", "assert", "package", "Object", "Exact", "System.out", "Random"}) {
            hold("no " + word, !Pattern.compile("\\b" + Pattern.quote(word) + "\\b").matcher(code).find());
        }
        hold("no lambda, no method reference", !code.contains("->") && !code.contains("::"));
        hold("no static block", !Pattern.compile("static\\s*\\{").matcher(code).find());
        hold("no texts joined by +", !Pattern.compile("\"\\s*\\+|\\+\\s*\"").matcher(code).find());
        Matcher imports = Pattern.compile("import\\s+([\\w.]+);").matcher(code);
        while (imports.find()) {
            hold("import " + imports.group(1), imports.group(1).equals("java.util.ArrayList"));
        }
        int start = 0;
        String[] lines = text.split("\n");
        for (int i = 0; i < lines.length; i++) {
            if (lines[i].matches("( {4}| {8})[A-Za-z].*\\) \\{")) {
                start = i;
            } else if (lines[i].matches("( {4}| {8})\\}")) {
                hold("some sixty lines: line " + (start + 1), lines[start].contains(" class ") || i - start <= 60);
            }
        }
    }
}

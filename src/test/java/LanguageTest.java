import java.io.IOException;
import java.lang.reflect.Constructor;
import java.lang.reflect.Field;
import java.lang.reflect.Method;
import java.lang.reflect.Modifier;
import java.nio.file.Files;
import java.nio.file.Path;
import java.util.ArrayList;
import java.util.HashSet;
import java.util.List;
import java.util.Set;
import java.util.TreeSet;
import java.util.regex.Matcher;
import java.util.regex.Pattern;

/** Those rules of ../shared/LANGUAGE.md that can be seen in the source's text or in the compiled class. */
public final class LanguageTest {
    private static final Due CHECK = new Due();
    private static final Pattern FACE = Pattern.compile("public (\\w+ )?(\\w+)\\(([^)]*)\\)( throws [^;]*)?;");
    private static final Pattern HEAD = Pattern.compile("^ {4,8}(?!return|throw|else|new)[\\w\\[\\]<> ]+\\(([^;]*)\\)[^;]*\\{$");
    private static final Set<String> IMPORTS = Set.of("java.util.ArrayList", "java.util.Arrays",
            "java.util.NoSuchElementException", "java.util.List");

    public static void main(String[] args) throws IOException {
        String source = Files.readString(Path.of("src/main/java/Sendhouse.java"));
        rule1TheFace();
        rule1PrivateNames();
        headingsAheadOfTheCalls(source);
        rule4And5Statics(source);
        forbiddenWords(source);
        rule11Lengths(source);
        CHECK.finish("LanguageTest");
    }

    private static void rule1TheFace() throws IOException {
        String doc = Files.readString(Path.of("../shared/DOC.md"));
        String face = doc.substring(doc.indexOf("public final class Sendhouse {"));
        Set<String> due = new TreeSet<>();
        Matcher line = FACE.matcher(face.substring(0, face.indexOf("```")));
        while (line.find()) {
            String type = line.group(1) == null ? "" : line.group(1);
            String throwing = line.group(4) == null ? "" : line.group(4);
            due.add(type + line.group(2) + types(line.group(3)) + throwing.replace(" throws ", " ").replace(",", ""));
        }
        Set<String> got = new TreeSet<>();
        for (Method method : Sendhouse.class.getDeclaredMethods()) {
            if (!Modifier.isPrivate(method.getModifiers())) {
                got.add(method.getReturnType() + " " + method.getName() + types(method.getParameterTypes())
                        + thrown(method.getExceptionTypes()));
            }
        }
        for (Constructor<?> constructor : Sendhouse.class.getDeclaredConstructors()) {
            got.add(constructor.getName() + types(constructor.getParameterTypes()));
        }
        CHECK.due("rule 1: the face", got.toString(), due.toString());
        for (Field field : Sendhouse.class.getDeclaredFields()) {
            CHECK.due("rule 1: private " + field.getName(), Modifier.isPrivate(field.getModifiers()), true);
        }
        CHECK.due("rule 1: final", Modifier.isFinal(Sendhouse.class.getModifiers()), true);
    }

    private static String types(String parameters) {
        StringBuilder types = new StringBuilder("(");
        for (String parameter : parameters.split(", *")) {
            types.append(parameter.split(" ")[0]).append(' ');
        }
        return types.toString().trim() + ")";
    }

    private static String types(Class<?>[] parameters) {
        StringBuilder types = new StringBuilder("(");
        for (Class<?> parameter : parameters) {
            types.append(parameter).append(' ');
        }
        return types.toString().trim() + ")";
    }

    private static String thrown(Class<?>[] kinds) {
        StringBuilder names = new StringBuilder();
        for (Class<?> kind : kinds) {
            names.append(' ').append(kind.getSimpleName());
        }
        return names.toString();
    }

    private static void rule1PrivateNames() {
        Set<String> open = new HashSet<>();
        List<Method> hidden = new ArrayList<>();
        for (Method method : Sendhouse.class.getDeclaredMethods()) {
            if (Modifier.isPublic(method.getModifiers())) {
                open.add(method.getName());
            } else {
                hidden.add(method);
            }
        }
        for (Class<?> inside : Sendhouse.class.getDeclaredClasses()) {
            CHECK.due("rule 1: static " + inside, Modifier.isStatic(inside.getModifiers()), true);
            hidden.addAll(List.of(inside.getDeclaredMethods()));
        }
        for (Method method : hidden) {
            CHECK.due("rule 1: another name than " + method.getName(), open.contains(method.getName()), false);
        }
        CHECK.due("rule 11: twelve classes", Sendhouse.class.getDeclaredClasses().length <= 11, true);
    }

    /** "Ahead of the calls .. the interface says: .." */
    private static void headingsAheadOfTheCalls(String source) throws IOException {
        String doc = Files.readString(Path.of("../shared/DOC.md"));
        Matcher said = Pattern.compile("Ahead of the calls ([^.]*) the interface says: ([^.]*)\\.").matcher(doc);
        int headings = 0;
        while (said.find()) {
            headings++;
            int from = source.indexOf("    // ---- " + said.group(2) + "\n");
            CHECK.due("a heading: " + said.group(2), from >= 0, true);
            String below = from < 0 ? "" : source.substring(from, source.indexOf("    // ---- ", from + 1));
            for (String call : said.group(1).split("[`, ]+")) {
                boolean there = Pattern.compile("(?m)^    public \\w+ " + call + "\\(").matcher(below).find();
                CHECK.due(call + " below " + said.group(2), there, !call.isEmpty());
            }
        }
        CHECK.due("headings", headings, 5);
    }

    private static void rule4And5Statics(String source) {
        Matcher imports = Pattern.compile("(?m)^import ([^;]*);").matcher(source);
        while (imports.find()) {
            CHECK.due("rule 4: import " + imports.group(1), IMPORTS.contains(imports.group(1)), true);
        }
        List<Class<?>> all = new ArrayList<>(List.of(Sendhouse.class.getDeclaredClasses()));
        all.add(Sendhouse.class);
        for (Class<?> one : all) {
            int fields = 0;
            for (Field field : one.getDeclaredFields()) {
                boolean isStatic = Modifier.isStatic(field.getModifiers());
                fields += isStatic ? 0 : 1;
                CHECK.due("rule 5: final " + field, !isStatic || Modifier.isFinal(field.getModifiers()), true);
            }
            CHECK.due("rule 11: fields of " + one, fields <= 20, true);
        }
    }

    private static void forbiddenWords(String source) {
        String code = source.replaceAll("//[^\n]*", "").replaceAll("(?s)/\\*.*?\\*/", "")
                .replaceAll("\"[^\"\n]*\"", "\"\"");
        for (String word : new String[] {"finally", "synchronized", "assert", "catch", "try", "yield", "Object", "System",
            "Thread", "Random", "Exact", "hashCode", "toString", "instanceof", "static \\{", "->", "::", "getMessage",
            "protected", "default \\w", "java\\.lang", "\"\" \\+", "\\+ \"\""}) {
            String bounded = word.matches("\\w+") ? "\\b\\w*" + word + "\\b" : word;
            CHECK.due("no " + word, Pattern.compile(bounded).matcher(code).find(), false);
        }
    }

    private static void rule11Lengths(String source) {
        String[] lines = source.split("\n");
        int begun = -1;
        for (int i = 0; i < lines.length; i++) {
            CHECK.due("line " + (i + 1) + " is short", lines[i].length() <= 130, true);
            Matcher head = HEAD.matcher(lines[i]);
            if (head.find()) {
                begun = i;
                CHECK.due("rule 11: parameters at " + (i + 1), head.group(1).split(",").length <= 7, true);
            }
            if (begun >= 0 && lines[i].equals(lines[begun].replaceAll("\\S.*", "") + "}")) {
                CHECK.due("rule 11: length at " + (begun + 1), i - begun < 60, true);
                begun = -1;
            }
        }
    }
}

import java.io.IOException;
import java.lang.reflect.InvocationTargetException;
import java.lang.reflect.Method;
import java.nio.file.Files;
import java.nio.file.Path;
import java.util.HashMap;
import java.util.HashSet;
import java.util.Map;
import java.util.Set;
import java.util.TreeSet;
import java.util.regex.Matcher;
import java.util.regex.Pattern;

/** The examples of README.md: each line's last call answers what the comment behind it begins with. */
public final class ReadmeTest {
    private static final Due CHECK = new Due();
    private static final Pattern BLOCK = Pattern.compile("(?s)```java\n(.*?)```");
    private static final Pattern CALL = Pattern.compile("(?:int (\\w+) = )?house\\.(\\w+)\\((.*)\\)");
    private static final Map<String, Method> FACE = new HashMap<>();
    private static final Set<String> CALLED = new HashSet<>();

    private final Map<String, Integer> names = new HashMap<>();
    private Sendhouse house;

    public static void main(String[] args) throws IOException, IllegalAccessException {
        for (Method method : Sendhouse.class.getDeclaredMethods()) {
            FACE.put(method.getName(), method);
        }
        String readme = Files.readString(Path.of("README.md"));
        Matcher block = BLOCK.matcher(readme);
        int blocks = 0;
        while (block.find()) {
            blocks++;
            new ReadmeTest().play(block.group(1));
        }
        CHECK.due("blocks", blocks, 4);
        CHECK.due("most calls are shown", CALLED.size() > 30, true);
        everyTestIsTold(readme);
        CHECK.finish("ReadmeTest");
    }

    private static void everyTestIsTold(String readme) throws IOException {
        Set<String> tests = new TreeSet<>();
        try (var files = Files.list(Path.of("src/test/java"))) {
            files.forEach(file -> tests.add(file.getFileName().toString().replace(".java", "")));
        }
        for (String test : tests) {
            CHECK.due("README.md tells of " + test, readme.contains("`" + test + "`"), true);
        }
    }

    private void play(String block) throws IllegalAccessException {
        for (String line : block.split("\n")) {
            String[] parts = line.split(" // ", 2);
            String got = "";
            for (String call : parts[0].trim().split("; *")) {
                got = answer(call.trim());
            }
            if (parts.length > 1) {
                CHECK.due(line, got, parts[1].split(": ")[0].trim());
            } else {
                CHECK.due(line, got.startsWith("throws"), false);
            }
        }
    }

    private String answer(String line) throws IllegalAccessException {
        if (line.equals("Sendhouse house = new Sendhouse()")) {
            house = new Sendhouse();
            return "";
        }
        Matcher call = CALL.matcher(line);
        if (!call.matches()) {
            return "no call: " + line;
        }
        CALLED.add(call.group(2));
        try {
            Object got = FACE.get(call.group(2)).invoke(house, numbers(call.group(3)));
            if (call.group(1) != null) {
                names.put(call.group(1), (Integer) got);
            }
            return got instanceof Character ? "'" + got + "'" : String.valueOf(got);
        } catch (InvocationTargetException e) {
            return "throws " + e.getCause().getClass().getSimpleName();
        }
    }

    private Object[] numbers(String given) {
        if (given.isEmpty()) {
            return new Object[0];
        }
        String[] words = given.split(", ");
        Object[] numbers = new Object[words.length];
        for (int i = 0; i < words.length; i++) {
            numbers[i] = words[i].startsWith("'") ? (Object) words[i].charAt(1)
                    : names.containsKey(words[i]) ? names.get(words[i]) : (Object) Integer.valueOf(words[i]);
        }
        return numbers;
    }
}

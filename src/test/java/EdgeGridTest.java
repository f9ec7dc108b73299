import java.lang.reflect.InvocationTargetException;
import java.lang.reflect.Method;
import java.util.ArrayList;
import java.util.Arrays;
import java.util.HashMap;
import java.util.List;
import java.util.Map;

/**
 * Each call of the face with all combinations of numbers about its edges, in houses that are as empty, as full, and as
 * far with a run as can be, answered by Sendhouse and by the Model; what was refused has changed nothing.
 */
public final class EdgeGridTest {
    private static final Due CHECK = new Due();
    private static final Map<String, Method> FACE = new HashMap<>();
    private static final int MAX = Integer.MAX_VALUE;
    private static final int MIN = Integer.MIN_VALUE;
    private static final int[] CLASSES = {MIN, -1, 0, 1, 2, 3, 4, 5, 11, 12, MAX};
    private static final int[] SELECTORS = {MIN, -1, 0, 1, 2, 15, 16, MAX};
    private static final int[] GLOBALS = {MIN, -1, 0, 1, 2, 6, 7, 8, MAX};
    private static final int[] FEW = {MIN, -1, 0, 1, 2, 3, 4, 5, MAX};
    private static final int[] THINGS = {MIN, -1, 0, 1, 2, 59, 60, 61, MAX};
    private static final int[] FRAMES = {MIN, -1, 0, 1, 10, 11, 12, MAX};
    private static final int[] PLACES = {MIN, -1, 0, 1, 2, 3, 4, 7, 8, 9, MAX};
    private static final int[] LETTERS = letters();

    /** The calls that make each house, in words: a name and its numbers, or rows to be typed behind a colon. */
    private static final String[] HOUSES = {
        "",
        "add 0 4;add 3 4;add 4 0;make 0 3;make 1 4;make 7 5",
        "add 0 0;add 0 0;add 0 0;add 0 0;add 0 0;add 0 0;add 0 0;add 0 4;add 10 4;:u r;method 2 0 0 0;:u;x60 make 0 11",
        ":s m0,0 r;method 2 0 0 0;begin 0 0 0 0 0;go 11;x24 row n 1 1",
        ":s m0,0 r;method 2 0 0 0;begin 0 0 0 0 0;go 500;x23 row w 0 0;hot 99",
        ":u u u u u u u u j8;method 2 15 2 4;begin 7 15 2 -1 1;go 1;:a0 r",
        ":a0 w a1 w u w n1 n0 / r;method 0 1 2 0;:s r;method 2 1 1 0;x59 make 0 0;begin 0 1 2 -1 1;go 1;:d r",
        ":c0 d w d w w c0 r;method 2 2 0 0;begin 0 2 0 0 0;go 1;hot 1;begin 0 2 0 0 0;go 1;:+ r",
        ":j0;method 2 2 0 0;begin 0 2 0 0 0;go 1;end;compile 2 2;:u y2 u r",
        ":u y0 u r;method 2 2 0 0;hot 2;begin 0 2 0 0 0;go 1;:n1 y3",
    };

    private final String script;
    private Sendhouse house;
    private Model model;

    private EdgeGridTest(String script) {
        this.script = script;
        make();
    }

    public static void main(String[] args) {
        for (Method method : Sendhouse.class.getDeclaredMethods()) {
            if (java.lang.reflect.Modifier.isPublic(method.getModifiers())) {
                FACE.put(method.getName(), method);
            }
        }
        for (String script : HOUSES) {
            EdgeGridTest grid = new EdgeGridTest(script);
            for (String name : FACE.keySet()) {
                grid.allOf(name);
            }
        }
        CHECK.finish("EdgeGridTest");
    }

    private static int[] letters() {
        String letters = "nusatfgTFGdp+-*/<=kcmMjyrwxXeC0 \u0000\uffff";
        return letters.chars().toArray();
    }

    private static int[][] grid(String name) {
        switch (name) {
            case "add":
                return new int[][] {CLASSES, FEW};
            case "fields":
                return new int[][] {CLASSES};
            case "row":
                return new int[][] {LETTERS, {MIN, 0, MAX}, {MIN, 0, MAX}};
            case "method":
                return new int[][] {CLASSES, SELECTORS, FEW, {MIN, -1, 0, 1, 4, 5, MAX}};
            case "remove": case "find": case "calls": case "compile": case "isCompiled":
                return new int[][] {CLASSES, SELECTORS};
            case "hot":
                return new int[][] {{MIN, -1, 0, 1, 2, 98, 99, 100, 101, MAX}};
            case "number":
                return new int[][] {GLOBALS, {MIN, 0, MAX}};
            case "nothing": case "kind": case "value":
                return new int[][] {GLOBALS};
            case "make":
                return new int[][] {GLOBALS, CLASSES};
            case "classOf":
                return new int[][] {THINGS};
            case "fieldKind": case "fieldValue":
                return new int[][] {THINGS, PLACES};
            case "begin":
                return new int[][] {GLOBALS, SELECTORS, FEW, {MIN, 5}, {0, MAX}};
            case "go":
                return new int[][] {{MIN, -500, -1, 0, 1, 2, 499, 500, 501, MAX}};
            case "frame":
                return new int[][] {FRAMES, LETTERS};
            case "slotKind": case "slot":
                return new int[][] {FRAMES, LETTERS, PLACES};
            case "writtenKind": case "writtenValue":
                return new int[][] {PLACES};
            default:
                return new int[0][];
        }
    }

    private void make() {
        house = new Sendhouse();
        model = new Model();
        for (String word : script.split(";")) {
            if (word.startsWith("x")) {
                int many = Integer.parseInt(word.substring(1, word.indexOf(' ')));
                for (int i = 0; i < many; i++) {
                    call(word.substring(word.indexOf(' ') + 1));
                }
            } else if (word.startsWith(":")) {
                for (String row : word.substring(1).split(" ")) {
                    String[] numbers = (row.substring(1) + ",0").split(",");
                    call("row " + row.charAt(0) + " " + (numbers[0].isEmpty() ? "0" : numbers[0]) + " " + numbers[1]);
                }
            } else if (!word.isEmpty()) {
                call(word);
            }
        }
    }

    private void call(String words) {
        String[] each = words.split(" ");
        Class<?>[] types = FACE.get(each[0]).getParameterTypes();
        Object[] numbers = new Object[types.length];
        for (int i = 0; i < types.length; i++) {
            String word = each[i + 1];
            numbers[i] = types[i] == char.class ? (Object) word.charAt(0) : (Object) Integer.valueOf(word);
        }
        CHECK.due(script + " | makes", compare(each[0], numbers), true);
    }

    /** Answers of both; whether they did not throw. */
    private boolean compare(String name, Object[] numbers) {
        Class<?>[] types = FACE.get(name).getParameterTypes();
        String got = answer(house, name, types, numbers);
        String due = answer(model, name, types, numbers);
        CHECK.due(script + " | " + name + Arrays.toString(numbers), got, due);
        return !due.startsWith("throws");
    }

    private void allOf(String name) {
        int[][] grid = grid(name);
        Class<?>[] types = FACE.get(name).getParameterTypes();
        make();
        boolean refused = false;
        for (int[] numbers : combinations(grid)) {
            Object[] given = new Object[numbers.length];
            for (int i = 0; i < numbers.length; i++) {
                given[i] = types[i] == char.class ? (Object) (char) numbers[i] : (Object) numbers[i];
            }
            if (compare(name, given)) {
                CHECK.due(script + " | sum behind " + name, house.checksum(), model.checksum());
                make();
                refused = false;
            } else {
                refused = true;
            }
        }
        if (refused) {
            Sendhouse called = house;
            make();
            CHECK.due(script + " | what was refused of " + name, Due.goOn(called), Due.goOn(house));
        }
    }

    private static List<int[]> combinations(int[][] grid) {
        List<int[]> all = new ArrayList<>();
        all.add(new int[grid.length]);
        for (int i = 0; i < grid.length; i++) {
            List<int[]> more = new ArrayList<>();
            for (int[] so : all) {
                for (int number : grid[i]) {
                    int[] with = so.clone();
                    with[i] = number;
                    more.add(with);
                }
            }
            all = more;
        }
        return all;
    }

    private static String answer(Object of, String name, Class<?>[] types, Object[] numbers) {
        try {
            return String.valueOf(of.getClass().getMethod(name, types).invoke(of, numbers));
        } catch (InvocationTargetException e) {
            return "throws " + e.getCause().getClass().getSimpleName();
        } catch (ReflectiveOperationException e) {
            throw new IllegalStateException(e);
        }
    }
}

import java.util.function.LongSupplier;
import java.util.function.Supplier;
import java.util.function.ToLongFunction;

/** What the tests share: answers that are due, calls that must throw, programs as words, and looks at a house. */
final class Due {
    private int wrong = 0;
    private int looked = 0;

    void due(String what, long got, long want) {
        looked++;
        if (got != want) {
            wrong++;
            System.out.println(what + ": answered " + got + ", due is " + want);
        }
    }

    void due(String what, boolean got, boolean want) {
        due(what, got ? 1 : 0, want ? 1 : 0);
    }

    void due(String what, double got, double want) {
        looked++;
        if (got != want) {
            wrong++;
            System.out.println(what + ": answered " + got + ", due is " + want);
        }
    }

    void due(String what, String got, String want) {
        looked++;
        if (!got.equals(want)) {
            wrong++;
            System.out.println(what + ": answered " + got + ", due is " + want);
        }
    }

    /** The call throws just this exception, and the house looks as it did. */
    void dueThrow(String what, Sendhouse house, Class<? extends Exception> kind, LongSupplier call) {
        String before = look(house);
        String got;
        try {
            got = "answer " + call.getAsLong();
        } catch (RuntimeException e) {
            got = e.getClass().getSimpleName();
        }
        due(what, got, kind.getSimpleName());
        due(what + " changes nothing", look(house), before);
    }

    /** The call throws just this exception, and the house goes on as one that was not called so. */
    void dueRefused(String what, Supplier<Sendhouse> maker, Class<? extends Exception> kind,
            ToLongFunction<Sendhouse> call) {
        Sendhouse house = maker.get();
        due(what, answerOf(house, call), kind.getSimpleName());
        due(what + " changes nothing", goOn(house), goOn(maker.get()));
    }

    /** The call answers this, in a house of its own. */
    void dueAnswer(String what, Supplier<Sendhouse> maker, long want, ToLongFunction<Sendhouse> call) {
        due(what, answerOf(maker.get(), call), "" + want);
    }

    static String answerOf(Sendhouse house, ToLongFunction<Sendhouse> call) {
        try {
            return "" + call.applyAsLong(house);
        } catch (RuntimeException e) {
            return e.getClass().getSimpleName();
        }
    }

    /** All that can be seen of a house, also what shows only as it goes on: typed rows, hot, places that are free. */
    static String goOn(Sendhouse house) {
        StringBuilder seen = new StringBuilder(look(house));
        for (int cls = 0; cls < house.classes(); cls++) {
            for (int selector = 0; selector < 16; selector++) {
                int c = cls;
                int s = selector;
                seen.append(' ').append(answerOf(house, it -> it.find(c, s)));
            }
        }
        seen.append(" hot ").append(house.hot(0)).append(" typed ").append(answerOf(house, it -> it.row('j', 0, 0)));
        seen.append(" told ").append(answerOf(house, it -> it.method(0, 15, 0, 0)));
        seen.append(" typed ").append(house.wipe());
        seen.append(" gone on ").append(answerOf(house, it -> it.go(3))).append(look(house));
        seen.append(" gone ").append(house.collect()).append(" made ").append(answerOf(house, it -> it.make(7, 0)));
        seen.append(" added ").append(answerOf(house, it -> it.add(0, 1)));
        seen.append(" ended ").append(answerOf(house, Sendhouse::end));
        seen.append(" begun ").append(answerOf(house, it -> it.begin(7, 15, 0, 0, 0))).append(look(house));
        return seen.toString();
    }

    void finish(String name) {
        System.out.println(name + ": " + looked + " answers, " + wrong + " wrong");
        if (wrong != 0) {
            System.exit(1);
        }
    }

    /** Types rows, each a word: the letter, then its numbers with a comma between. */
    static void type(Sendhouse house, String rows) {
        for (String word : rows.trim().split(" +")) {
            String[] numbers = word.substring(1).split(",");
            int a = numbers[0].isEmpty() ? 0 : Integer.parseInt(numbers[0]);
            int b = numbers.length < 2 ? 0 : Integer.parseInt(numbers[1]);
            house.row(word.charAt(0), a, b);
        }
    }

    static int tell(Sendhouse house, int cls, int selector, int arguments, int temporaries, String rows) {
        type(house, rows);
        return house.method(cls, selector, arguments, temporaries);
    }

    /** A house whose global 0 is a number, with one method for numbers, selector 0. */
    static Sendhouse numberHouse(int receiver, int arguments, int temporaries, String rows) {
        Sendhouse house = new Sendhouse();
        house.number(0, receiver);
        tell(house, 1, 0, arguments, temporaries, rows);
        return house;
    }

    /** The answer's kind and value, or 'x' and the fault, or the state. */
    static String outcome(Sendhouse house) {
        switch (house.state()) {
            case 'r':
                return "" + house.answerKind() + house.answer();
            case 'x':
                return "x" + house.reason();
            default:
                return "" + house.state();
        }
    }

    /** The outcome of these rows, told for numbers, on the number 7 with the arguments x and y. */
    static String outcome(String rows, int x, int y) {
        Sendhouse house = numberHouse(7, 2, 4, rows);
        house.begin(0, 0, 2, x, y);
        house.go(500);
        return outcome(house);
    }

    /** Begins a run with this receiver's global and this selector, and lets it go on by as many steps as it can. */
    static String ran(Sendhouse house, int global, int selector) {
        house.begin(global, selector, 0, 0, 0);
        house.go(500);
        return outcome(house);
    }

    /** Kind and value of a place of a frame. */
    static String slot(Sendhouse house, int frame, char what, int index) {
        return "" + house.slotKind(frame, what, index) + house.slot(frame, what, index);
    }

    static String global(Sendhouse house, int global) {
        return "" + house.kind(global) + house.value(global);
    }

    static String field(Sendhouse house, int thing, int field) {
        return "" + house.fieldKind(thing, field) + house.fieldValue(thing, field);
    }

    /** Whether these rows can be told; they are wiped if they cannot. */
    static boolean canTell(Sendhouse house, int cls, int arguments, int temporaries, String rows) {
        type(house, rows);
        try {
            house.method(cls, 15, arguments, temporaries);
            return true;
        } catch (UnsupportedOperationException e) {
            house.wipe();
            return false;
        }
    }

    /** All that can be seen of a house without changing it. */
    static String look(Sendhouse house) {
        StringBuilder seen = new StringBuilder();
        lookAtMethods(house, seen);
        lookAtThings(house, seen);
        lookAtRun(house, seen);
        for (int i = 0; i < house.written(); i++) {
            seen.append(" w").append(house.writtenKind(i)).append(house.writtenValue(i));
        }
        return seen.append(" sum ").append(house.checksum()).toString();
    }

    private static void lookAtMethods(Sendhouse house, StringBuilder seen) {
        for (int cls = 0; cls < house.classes(); cls++) {
            seen.append(" class ").append(house.fields(cls));
            for (int selector = 0; selector < 16; selector++) {
                try {
                    int calls = house.calls(cls, selector);
                    seen.append(' ').append(selector).append('*').append(calls).append(house.isCompiled(cls, selector));
                } catch (java.util.NoSuchElementException e) {
                    seen.append('-');
                }
            }
        }
    }

    private static void lookAtThings(Sendhouse house, StringBuilder seen) {
        for (int global = 0; global < 8; global++) {
            seen.append(" g").append(house.kind(global)).append(house.value(global));
        }
        seen.append(" things ").append(house.things());
        for (int thing = 0; thing < 200; thing++) {
            try {
                int cls = house.classOf(thing);
                seen.append(" o").append(thing).append(':').append(cls);
                for (int field = 0; field < house.fields(cls); field++) {
                    seen.append(house.fieldKind(thing, field)).append(house.fieldValue(thing, field));
                }
            } catch (IndexOutOfBoundsException e) {
                seen.append('.');
            }
        }
    }

    private static void lookAtRun(Sendhouse house, StringBuilder seen) {
        seen.append(" state ").append(house.state()).append(house.steps());
        if (house.state() == 'x') {
            seen.append(house.reason());
        }
        if (house.state() == 'r') {
            seen.append(house.answerKind()).append(house.answer());
        }
        for (int frame = 0; frame < house.frames(); frame++) {
            seen.append(" frame");
            for (char what : "csrd".toCharArray()) {
                seen.append(' ').append(house.frame(frame, what));
            }
            seen.append(house.slotKind(frame, 's', 0)).append(house.slot(frame, 's', 0));
            for (char what : "atp".toCharArray()) {
                lookAtPlaces(house, frame, what, seen);
            }
        }
    }

    private static void lookAtPlaces(Sendhouse house, int frame, char what, StringBuilder seen) {
        seen.append(' ').append(what);
        for (int i = 0; i < 9; i++) {
            try {
                char kind = house.slotKind(frame, what, i);
                seen.append(kind).append(house.slot(frame, what, i));
            } catch (java.util.NoSuchElementException e) {
                return;
            }
        }
    }
}

import java.util.function.LongSupplier;

/** What the tests share: answers that are due, calls that must throw, programs written as words, and looks at a house. */
final class Due {
    private int wrong = 0;
    private int looked = 0;

    void due(String what, long got, long want) {
        looked++;
        if (got != want) {
            wrong++;
            System.out.println(what + ": answered " + got + ", due is " + want);
        }
    }

    void due(String what, boolean got, boolean want) {
        due(what, got ? 1 : 0, want ? 1 : 0);
    }

    void due(String what, double got, double want) {
        looked++;
        if (got != want) {
            wrong++;
            System.out.println(what + ": answered " + got + ", due is " + want);
        }
    }

    void due(String what, String got, String want) {
        looked++;
        if (!got.equals(want)) {
            wrong++;
            System.out.println(what + ": answered " + got + ", due is " + want);
        }
    }

    /** The call throws just this exception, and the house looks as it did. */
    void dueThrow(String what, Sendhouse house, Class<? extends Exception> kind, LongSupplier call) {
        String before = look(house);
        String got;
        try {
            got = "answer " + call.getAsLong();
        } catch (RuntimeException e) {
            got = e.getClass().getSimpleName();
        }
        due(what, got, kind.getSimpleName());
        due(what + " changes nothing", look(house), before);
    }

    void finish(String name) {
        System.out.println(name + ": " + looked + " answers, " + wrong + " wrong");
        if (wrong != 0) {
            System.exit(1);
        }
    }

    /** Types rows, each a word: the letter, then its numbers with a comma between. */
    static void type(Sendhouse house, String rows) {
        for (String word : rows.trim().split(" +")) {
            String[] numbers = word.substring(1).split(",");
            int a = numbers[0].isEmpty() ? 0 : Integer.parseInt(numbers[0]);
            int b = numbers.length < 2 ? 0 : Integer.parseInt(numbers[1]);
            house.row(word.charAt(0), a, b);
        }
    }

    static int tell(Sendhouse house, int cls, int selector, int arguments, int temporaries, String rows) {
        type(house, rows);
        return house.method(cls, selector, arguments, temporaries);
    }

    /** Whether these rows can be told; they are wiped if they cannot. */
    static boolean canTell(Sendhouse house, int cls, int arguments, int temporaries, String rows) {
        type(house, rows);
        try {
            house.method(cls, 15, arguments, temporaries);
            return true;
        } catch (UnsupportedOperationException e) {
            house.wipe();
            return false;
        }
    }

    /** All that can be seen of a house without changing it. */
    static String look(Sendhouse house) {
        StringBuilder seen = new StringBuilder();
        lookAtMethods(house, seen);
        lookAtThings(house, seen);
        lookAtRun(house, seen);
        for (int i = 0; i < house.written(); i++) {
            seen.append(" w").append(house.writtenKind(i)).append(house.writtenValue(i));
        }
        return seen.append(" sum ").append(house.checksum()).toString();
    }

    private static void lookAtMethods(Sendhouse house, StringBuilder seen) {
        for (int cls = 0; cls < house.classes(); cls++) {
            seen.append(" class ").append(house.fields(cls));
            for (int selector = 0; selector < 16; selector++) {
                try {
                    int calls = house.calls(cls, selector);
                    seen.append(' ').append(selector).append('*').append(calls).append(house.isCompiled(cls, selector));
                } catch (java.util.NoSuchElementException e) {
                    seen.append('-');
                }
            }
        }
    }

    private static void lookAtThings(Sendhouse house, StringBuilder seen) {
        for (int global = 0; global < 8; global++) {
            seen.append(" g").append(house.kind(global)).append(house.value(global));
        }
        seen.append(" things ").append(house.things());
        for (int thing = 0; thing < 200; thing++) {
            try {
                int cls = house.classOf(thing);
                seen.append(" o").append(thing).append(':').append(cls);
                for (int field = 0; field < house.fields(cls); field++) {
                    seen.append(house.fieldKind(thing, field)).append(house.fieldValue(thing, field));
                }
            } catch (IndexOutOfBoundsException e) {
                seen.append('.');
            }
        }
    }

    private static void lookAtRun(Sendhouse house, StringBuilder seen) {
        seen.append(" state ").append(house.state()).append(house.steps());
        if (house.state() == 'x') {
            seen.append(house.reason());
        }
        if (house.state() == 'r') {
            seen.append(house.answerKind()).append(house.answer());
        }
        for (int frame = 0; frame < house.frames(); frame++) {
            seen.append(" frame");
            for (char what : "csrd".toCharArray()) {
                seen.append(' ').append(house.frame(frame, what));
            }
            seen.append(house.slotKind(frame, 's', 0)).append(house.slot(frame, 's', 0));
            for (char what : "atp".toCharArray()) {
                lookAtPlaces(house, frame, what, seen);
            }
        }
    }

    private static void lookAtPlaces(Sendhouse house, int frame, char what, StringBuilder seen) {
        seen.append(' ').append(what);
        for (int i = 0; i < 9; i++) {
            try {
                char kind = house.slotKind(frame, what, i);
                seen.append(kind).append(house.slot(frame, what, i));
            } catch (java.util.NoSuchElementException e) {
                return;
            }
        }
    }
}

import java.util.NoSuchElementException;

/** A test for each boundary case of the figures, promises 39 to 42; what is due is reckoned from what can be asked. */
public final class EdgesOfFiguresTest {
    private static final Class<? extends Exception> ARITHMETIC = ArithmeticException.class;
    private static final int MAX = Integer.MAX_VALUE;
    private static final int MIN = Integer.MIN_VALUE;
    private static final Due CHECK = new Due();

    public static void main(String[] args) {
        shareOfAllThatAreTold();
        noShareOfNone();
        meanOfAllThatAreTold();
        meanOfManyCalls();
        noMeanOfNone();
        sumAtFirst();
        sumOfGlobals();
        sumOfSixtyThings();
        sumOfTwelveFrames();
        sumOfEachState();
        sumGoesRound();
        soundWithAsManyAsCanBe();
        thingsThatStayKeepTheirFields();
        CHECK.finish("EdgesOfFiguresTest");
    }

    private static long plus(long sum, long next) {
        return 31 * sum + next;
    }

    private static long plusValue(long sum, char kind, int value) {
        return plus(plus(sum, kind), value);
    }

    /** The sum over all, by what the house answers. */
    private static long sumOver(Sendhouse house, int made) {
        long sum = plus(7, house.steps());
        for (int global = 0; global < 8; global++) {
            sum = plusValue(sum, house.kind(global), house.value(global));
        }
        for (int thing = 0; thing < made; thing++) {
            sum = plusThing(sum, house, thing);
        }
        sum = plus(sum, house.state());
        for (int frame = 0; frame < house.frames(); frame++) {
            sum = plusFrame(sum, house, frame);
        }
        for (int i = 0; i < house.written(); i++) {
            sum = plusValue(sum, house.writtenKind(i), house.writtenValue(i));
        }
        return sum;
    }

    private static long plusThing(long before, Sendhouse house, int thing) {
        if (Due.answerOf(house, it -> it.classOf(thing)).startsWith("Index")) {
            return before;
        }
        long sum = plus(plus(before, thing), house.classOf(thing));
        for (int field = 0; field < house.fields(house.classOf(thing)); field++) {
            sum = plusValue(sum, house.fieldKind(thing, field), house.fieldValue(thing, field));
        }
        return sum;
    }

    private static long plusFrame(long before, Sendhouse house, int frame) {
        long sum = plus(plus(plus(before, house.frame(frame, 'c')), house.frame(frame, 's')), house.frame(frame, 'r'));
        sum = plusValue(sum, house.slotKind(frame, 's', 0), house.slot(frame, 's', 0));
        for (char what : "atp".toCharArray()) {
            for (int i = 0; i < 8 && has(house, frame, what, i); i++) {
                sum = plusValue(sum, house.slotKind(frame, what, i), house.slot(frame, what, i));
            }
        }
        return sum;
    }

    private static boolean has(Sendhouse house, int frame, char what, int index) {
        try {
            house.slotKind(frame, what, index);
            return true;
        } catch (NoSuchElementException e) {
            return false;
        }
    }

    private static void dueSum(String what, Sendhouse house, int made) {
        CHECK.due(what, house.checksum(), sumOver(house, made));
        CHECK.due(what + ", sound", house.isSound(), true);
    }

    /** "Returns their number divided by that of all that are told, both converted to float" */
    private static void shareOfAllThatAreTold() {
        Sendhouse house = new Sendhouse();
        for (int told = 1; told <= 48; told++) {
            Due.tell(house, (told - 1) % 3, (told - 1) / 3, 0, 0, "s r");
            CHECK.due("none of " + told, house.compiledShare(), 0.0f);
        }
        for (int compiled = 1; compiled <= 48; compiled++) {
            house.compile((compiled - 1) % 3, (compiled - 1) / 3);
            CHECK.due(compiled + " of 48", house.compiledShare(), (float) compiled / (float) 48);
        }
        for (int told = 47; told >= 1; told--) {
            house.remove(told % 3, told / 3);
            CHECK.due("all of " + told, house.compiledShare(), 1.0f);
        }
    }

    /** "Throws ArithmeticException if none are told" */
    private static void noShareOfNone() {
        Sendhouse house = new Sendhouse();
        CHECK.dueThrow("none yet", house, ARITHMETIC, () -> (long) house.compiledShare());
        Due.tell(house, 0, 0, 0, 0, "s r");
        CHECK.due("one", house.compiledShare(), 0.0f);
        house.compile(0, 0);
        house.remove(0, 0);
        CHECK.dueThrow("none any more", house, ARITHMETIC, () -> (long) house.compiledShare());
    }

    /** "Returns the sum divided by their number, both converted to double" */
    private static void meanOfAllThatAreTold() {
        Sendhouse house = Due.numberHouse(7, 0, 0, "s r");
        for (int calls = 1; calls <= 7; calls++) {
            Due.ran(house, 0, 0);
            for (int told = 1; told <= 16; told++) {
                if (told > 1) {
                    Due.tell(house, 2, told - 1, 0, 0, "s r");
                }
                CHECK.due(calls + " by " + told, house.meanCalls(), (double) calls / (double) told);
            }
            for (int selector = 1; selector < 16; selector++) {
                house.remove(2, selector);
            }
        }
    }

    /** The same with calls by the thousand. */
    private static void meanOfManyCalls() {
        Sendhouse house = Due.numberHouse(7, 0, 0, "s m1,0 p s m1,0 p s m1,0 p s m1,0 p s m1,0 p s m1,0 p s m1,0 p j0");
        Due.tell(house, 0, 1, 0, 0, "s r");
        Due.tell(house, 2, 1, 0, 0, "s r");
        house.begin(0, 0, 0, 0, 0);
        for (int i = 0; i < 400; i++) {
            house.go(500);
        }
        CHECK.due("calls", house.calls(0, 1), 175000);
        CHECK.due("mean", house.meanCalls(), (double) 175001 / (double) 3);
    }

    /** "Throws ArithmeticException if none are told" */
    private static void noMeanOfNone() {
        Sendhouse house = Due.numberHouse(7, 0, 0, "j0");
        house.begin(0, 0, 0, 0, 0);
        CHECK.due("one", house.meanCalls(), 1.0);
        house.remove(1, 0);
        CHECK.dueThrow("none any more", house, ARITHMETIC, () -> (long) house.meanCalls());
        CHECK.dueThrow("no share too", house, ARITHMETIC, () -> (long) house.compiledShare());
        CHECK.due("while one stands", house.state(), 's');
    }

    /** "Returns 7 at first, then 31 times itself plus each of: the steps; .." */
    private static void sumAtFirst() {
        long sum = 7L * 31;
        for (int global = 0; global < 8; global++) {
            sum = (sum * 31 + 'u') * 31;
        }
        CHECK.due("of a new house", new Sendhouse().checksum(), sum * 31 + '-');
    }

    /** "for each global its kind as a character and its value" */
    private static void sumOfGlobals() {
        Sendhouse house = new Sendhouse();
        int[] numbers = {MIN, -1, 0, 1, MAX};
        for (int global = 0; global < 8; global++) {
            for (int number : numbers) {
                house.number(global, number);
                dueSum("number " + number, house, 0);
            }
        }
        for (int global = 0; global < 8; global++) {
            house.make(global, 0);
            dueSum("thing " + global, house, 8);
            house.nothing(7 - global);
            dueSum("nothing", house, 8);
        }
    }

    /** "for each thing that is there its number, its class, and each field's kind and value" */
    private static void sumOfSixtyThings() {
        Sendhouse house = new Sendhouse();
        house.add(0, 4);
        house.add(3, 4);
        Due.tell(house, 4, 0, 0, 0, "n-1 F0 s F1 n" + MIN + " F6 s F7 u r");
        int[] classes = {0, 3, 4};
        for (int i = 0; i < 60; i++) {
            house.make(i % 8, classes[i % 3]);
            if (i % 3 == 2) {
                Due.ran(house, i % 8, 0);
            }
            dueSum(i + " things", house, 60);
        }
        house.collect();
        dueSum("those that are there alone", house, 60);
        house.make(0, 4);
        dueSum("one more", house, 61);
    }

    /** "for each frame its method's class and selector, the row, then kinds and values of the receiver, .." */
    private static void sumOfTwelveFrames() {
        Sendhouse house = new Sendhouse();
        house.add(0, 1);
        Due.tell(house, 3, 15, 2, 4, "s T0 n-5 T3 u c0 n3 s a0 n1 + s m15,2 r");
        house.make(0, 3);
        house.begin(0, 15, 2, MIN, MAX);
        dueSum("begun", house, 13);
        for (int step = 0; step < 12; step++) {
            house.go(1);
            dueSum("step " + step, house, 13);
        }
        CHECK.due("a fault with 12 frames", house.frames(), 12);
        Due.tell(house, 3, 15, 0, 0, "s r");
        dueSum("told anew", house, 13);
        house.end();
        dueSum("ended", house, 13);
        Due.tell(house, 3, 1, 0, 0, "u n1 u n2 u n3 u s j8");
        house.begin(0, 1, 0, 0, 0);
        house.go(1);
        CHECK.due("8 on the pile", house.frame(0, 'd'), 8);
        dueSum("8 on the pile", house, 13);
    }

    /** "the state as a character" */
    private static void sumOfEachState() {
        Sendhouse house = Due.numberHouse(7, 1, 0, "n6 a0 / w j4");
        dueSum("none begun", house, 0);
        house.begin(0, 0, 1, 0, 0);
        dueSum("stands", house, 0);
        house.go(1);
        dueSum("a fault", house, 0);
        house.end();
        dueSum("ended", house, 0);
        Due.tell(house, 1, 0, 1, 0, "n6 a0 / w n5 r");
        house.begin(0, 0, 1, 4, 0);
        house.go(1);
        dueSum("answered", house, 0);
    }

    /** "and kinds and values of what was written; a long that goes round" */
    private static void sumGoesRound() {
        Sendhouse house = Due.numberHouse(7, 0, 0, "s n" + MIN + " w n" + MAX + " w u w c0 w n-1 w p j0");
        house.begin(0, 0, 0, 0, 0);
        for (int i = 0; i < 58; i++) {
            house.go(1);
            dueSum("written " + house.written(), house, 60);
            house.collect();
            dueSum("and collected", house, 60);
        }
        CHECK.due("five each time", house.written(), 5 * 59);
        house.go(40);
        dueSum("behind many", house, 100);
        house.end();
        dueSum("written stays", house, 100);
    }

    /** "and that no more things or frames are there than can be" */
    private static void soundWithAsManyAsCanBe() {
        Sendhouse house = Due.numberHouse(7, 0, 0, "s m0,0 r");
        for (int i = 0; i < 60; i++) {
            house.make(1, 0);
            CHECK.due("things", house.isSound(), true);
        }
        house.begin(0, 0, 0, 0, 0);
        for (int i = 0; i < 12; i++) {
            house.go(1);
            CHECK.due("frames", house.isSound(), true);
        }
        CHECK.due("60 things", house.things(), 60);
        CHECK.due("12 frames", house.frames(), 12);
        CHECK.due("and a fault", house.state(), 'x');
        house.collect();
        CHECK.due("collected", house.isSound(), true);
    }

    /** "By collecting all others are gone": those that stay are as they were, also when there are new ones. */
    private static void thingsThatStayKeepTheirFields() {
        Sendhouse house = new Sendhouse();
        house.add(0, 2);
        Due.tell(house, 3, 0, 2, 0, "a0 F0 g7 F1 s G7 u r");
        for (int i = 0; i < 60; i++) {
            house.make(0, 3);
            if (i % 3 == 1) {
                house.begin(0, 0, 2, 100 + i, 0);
                house.go(1);
            }
        }
        house.nothing(0);
        CHECK.due("two of three are gone", house.collect(), 40);
        for (int i = 0; i < 40; i++) {
            CHECK.due("new ones", house.make(0, 3), 60 + i);
        }
        house.begin(0, 0, 2, 5, 0);
        house.go(1);
        for (int i = 1; i < 60; i += 3) {
            CHECK.due("number of " + i, Due.field(house, i, 0), "n" + (100 + i));
            CHECK.due("next of " + i, Due.field(house, i, 1), i == 1 ? "u0" : "o" + (i - 3));
        }
        for (int i = 60; i < 99; i++) {
            CHECK.due("number of " + i, Due.field(house, i, 0), "u0");
        }
        CHECK.due("number of the last", Due.field(house, 99, 0), "n5");
        dueSum("all of them", house, 100);
    }
}

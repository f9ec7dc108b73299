import java.util.NoSuchElementException;
import java.util.function.Supplier;

/** A test for each sentence of 'Terms', Part 1 to Part 3, that names a boundary case; the sentence stands above it. */
public final class EdgesOfTellingTest {
    private static final Class<? extends Exception> OUT = IndexOutOfBoundsException.class;
    private static final Class<? extends Exception> ARGUMENT = IllegalArgumentException.class;
    private static final Class<? extends Exception> STATE = IllegalStateException.class;
    private static final Class<? extends Exception> UNSUPPORTED = UnsupportedOperationException.class;
    private static final Class<? extends Exception> NONE = NoSuchElementException.class;
    private static final int MAX = Integer.MAX_VALUE;
    private static final int MIN = Integer.MIN_VALUE;
    private static final int[] FAR = {MIN, MIN + 1, -2, -1, 1 << 16, MAX - 1, MAX};
    private static final String NO_VALUE_TAKEN = "nusatfgcj";
    private static final String ONE_TAKEN = "TFGdpkyrw";
    private static final String TWO_TAKEN = "+-*/<=";
    private static final Due CHECK = new Due();

    public static void main(String[] args) {
        values();
        classes();
        methods();
        rows();
        wellTold();
        CHECK.finish("EdgesOfTellingTest");
    }

    private static void values() {
        numbersGoRound();
        thingsAreNumberedAsTheyAreMade();
        numbersAreNotGivenAgain();
        sixtyThings();
        newFieldsHaveNothing();
        globals0To7();
    }

    private static void classes() {
        threeClassesAtFirst();
        twelveClasses();
        neitherBelow1NorBelow2();
        ownFields0To4();
        eightFieldsInAll();
        fieldsBehindThoseAbove();
    }

    private static void methods() {
        selectors0To15();
        inPlaceOfTheOneThere();
        arguments0To2();
        temporaries0To4();
        rows1To24();
        typedRowsAtMost24();
        tellingTakesTheRows();
    }

    private static void rows() {
        rowsThatPut();
        rowsThatTakeInto();
        topOnceMoreAndAway();
        divisionIsCut();
        lessIs1Or0();
        bothMustBeNumbers();
        sameValues();
        classesOfValues();
        thingsOfAClass();
        goesOnAtTheRow();
        rowBehindIsNext();
        numbersNotNamed();
    }

    private static void wellTold() {
        fromRow0WithAnEmptyPile();
        bothWaysOfY();
        alwaysAsManyValues();
        eightValuesAtMost();
        eightValuesAtEachLetter();
        noRowTakesMore();
        eachRowIsThere();
        namesAnArgument();
        namesATemporary();
        namesAField();
        namesAGlobal();
        namesAClass();
        namesASelector();
        namesArguments0To2();
        rowsThatCannotBeComeTo();
        othersCannotBeTold();
    }

    private static boolean can(int cls, int arguments, int temporaries, String rows) {
        return Due.canTell(family(), cls, arguments, temporaries, rows);
    }

    private static void dueTold(String rows, boolean want) {
        CHECK.due("told: " + rows, can(0, 1, 1, rows), want);
    }

    private static String times(int many, String rows) {
        return (rows + " ").repeat(many);
    }

    /** The classes 3 to 6, each below the one ahead of it, with 2, 6, 8 and 8 fields. */
    private static Sendhouse family() {
        Sendhouse house = new Sendhouse();
        house.add(0, 2);
        house.add(3, 4);
        house.add(4, 2);
        house.add(5, 0);
        return house;
    }

    private static Sendhouse twelve() {
        Sendhouse house = new Sendhouse();
        for (int cls = 3; cls < 12; cls++) {
            house.add(0, 0);
        }
        return house;
    }

    private static Sendhouse sixty() {
        Sendhouse house = new Sendhouse();
        for (int i = 0; i < 60; i++) {
            house.make(0, 0);
        }
        return house;
    }

    // ---- Part 1, values

    /** "numbers, 'n', ints that go round" */
    private static void numbersGoRound() {
        CHECK.due("greatest and one", Due.outcome("a0 a1 + r", MAX, 1), "n" + MIN);
        CHECK.due("greatest twice", Due.outcome("a0 a1 + r", MAX, MAX), "n-2");
        CHECK.due("least and minus one", Due.outcome("a0 a1 + r", MIN, -1), "n" + MAX);
        CHECK.due("least less one", Due.outcome("a0 a1 - r", MIN, 1), "n" + MAX);
        CHECK.due("0 less the least", Due.outcome("a0 a1 - r", 0, MIN), "n" + MIN);
        CHECK.due("greatest less minus one", Due.outcome("a0 a1 - r", MAX, -1), "n" + MIN);
        CHECK.due("greatest times 2", Due.outcome("a0 a1 * r", MAX, 2), "n-2");
        CHECK.due("least times minus one", Due.outcome("a0 a1 * r", MIN, -1), "n" + MIN);
        CHECK.due("65536 times itself", Due.outcome("a0 a1 * r", 1 << 16, 1 << 16), "n0");
        CHECK.due("least by minus one", Due.outcome("a0 a1 / r", MIN, -1), "n" + MIN);
        CHECK.due("least is less than greatest", Due.outcome("a0 a1 < r", MIN, MAX), "n1");
        CHECK.due("greatest is not less than least", Due.outcome("a0 a1 < r", MAX, MIN), "n0");
    }

    /** "things, 'o', numbered from 0 as they are made" */
    private static void thingsAreNumberedAsTheyAreMade() {
        Sendhouse house = Due.numberHouse(7, 0, 0, "c0 G2 c0 r");
        CHECK.due("the first", house.make(7, 0), 0);
        CHECK.due("the second and third, by rows", Due.ran(house, 0, 0), "o2");
        CHECK.due("the second", Due.global(house, 2), "o1");
        CHECK.due("the fourth", house.make(1, 0), 3);
    }

    /** "a number not being given again" */
    private static void numbersAreNotGivenAgain() {
        Sendhouse house = sixty();
        house.nothing(0);
        CHECK.due("all are gone", house.collect(), 60);
        CHECK.due("the next number", house.make(0, 0), 60);
        CHECK.dueThrow("the first number is of nothing", house, OUT, () -> house.classOf(0));
        CHECK.dueThrow("the last one too", house, OUT, () -> house.classOf(59));
        CHECK.due("one is there", house.things(), 1);
        house.make(0, 0);
        house.collect();
        CHECK.due("also when one is gone", house.make(1, 0), 62);
    }

    /** "At most 60 things are there at a time" */
    private static void sixtyThings() {
        Sendhouse house = sixty();
        CHECK.due("60 are there", house.things(), 60);
        CHECK.dueThrow("a 61st", house, STATE, () -> house.make(0, 0));
        Due.tell(house, 2, 0, 0, 0, "c0 r");
        CHECK.due("a 61st by a row", Due.ran(house, 1, 0), "xm");
        CHECK.due("still 60", house.things(), 60);
        house.number(0, 1);
        house.collect();
        CHECK.due("all are gone", house.things(), 0);
        for (int i = 0; i < 59; i++) {
            house.make(0, 0);
        }
        CHECK.due("the 60th by a row", Due.ran(house, 1, 0), "o119");
        CHECK.dueThrow("a 61st then", house, STATE, () -> house.make(0, 0));
        CHECK.due("only two are reached", house.collect(), 58);
        CHECK.due("58 have room again", house.make(0, 0), 120);
    }

    /** "the fields of a new thing have nothing" */
    private static void newFieldsHaveNothing() {
        Sendhouse house = family();
        Due.tell(house, 5, 0, 0, 0, "n1 F0 n2 F1 n3 F2 n4 F3 n5 F4 n6 F5 n7 F6 s F7 s r");
        Due.tell(house, 2, 0, 0, 0, "c5 r");
        for (int round = 0; round < 61; round++) {
            int thing = house.make(0, 5);
            for (int field = 0; field < 8; field++) {
                CHECK.due("made", Due.field(house, thing, field), "u0");
            }
            CHECK.due("fields are taken into", Due.ran(house, 0, 0), "o" + thing);
            CHECK.due("field 7", Due.field(house, thing, 7), "o" + thing);
            CHECK.due("a new one by a row", Due.ran(house, 1, 0), "o" + (thing + 1));
            for (int field = 0; field < 8; field++) {
                CHECK.due("made by a row", Due.field(house, thing + 1, field), "u0");
            }
            house.nothing(0);
            house.collect();
        }
    }

    /** "There are the globals 0 to 7, which have nothing at first" */
    private static void globals0To7() {
        Sendhouse house = new Sendhouse();
        for (int global = 0; global < 8; global++) {
            CHECK.due("nothing at first", Due.global(house, global), "u0");
        }
        for (int global = 0; global < 8; global++) {
            house.number(global, global + 10);
        }
        for (int global = 0; global < 8; global++) {
            CHECK.due("each is its own", Due.global(house, global), "n" + (global + 10));
        }
        CHECK.dueThrow("none below 0", house, OUT, () -> house.number(-1, 5));
        CHECK.dueThrow("none above 7", house, OUT, () -> house.number(8, 5));
        for (int far : FAR) {
            CHECK.dueThrow("none at " + far, house, OUT, () -> house.kind(far));
        }
    }

    // ---- Part 2, classes

    /** "The class 0 is above all others; 1 is that of numbers, 2 that of nothing, both right below 0, without fields" */
    private static void threeClassesAtFirst() {
        Sendhouse house = new Sendhouse();
        CHECK.due("three", house.classes(), 3);
        for (int cls = 0; cls < 3; cls++) {
            CHECK.due("without fields", house.fields(cls), 0);
        }
        Due.tell(house, 0, 0, 0, 0, "n0 r");
        CHECK.due("0 is above 1", house.find(1, 0), 0);
        CHECK.due("0 is above 2", house.find(2, 0), 0);
        Due.tell(house, 1, 0, 0, 0, "n1 r");
        CHECK.due("1 is not above 2", house.find(2, 0), 0);
        CHECK.due("nothing is of 2", Due.ran(house, 7, 0), "n0");
        house.number(7, 0);
        CHECK.due("a number is of 1", Due.ran(house, 7, 0), "n1");
        CHECK.due("below 0", house.add(0, 0), 3);
        CHECK.due("0 is above 3", house.find(3, 0), 0);
    }

    /** "At most 12 classes are there, numbered from 0" */
    private static void twelveClasses() {
        Sendhouse house = new Sendhouse();
        for (int cls = 3; cls < 12; cls++) {
            CHECK.due("there are", house.classes(), cls);
            CHECK.due("the next number", house.add(0, 0), cls);
        }
        CHECK.due("12", house.classes(), 12);
        CHECK.dueThrow("a 13th", house, STATE, () -> house.add(0, 0));
        CHECK.dueThrow("a 13th below the last", house, STATE, () -> house.add(11, 4));
        CHECK.due("the last can be asked", house.fields(11), 0);
        CHECK.due("a thing of the last", house.make(0, 11), 0);
        CHECK.due("a method of the last", Due.tell(house, 11, 15, 0, 0, "s r"), 2);
    }

    /** "a further one is told with the one above it, which is neither 1 nor 2" */
    private static void neitherBelow1NorBelow2() {
        Sendhouse house = new Sendhouse();
        CHECK.dueThrow("below 1", house, ARGUMENT, () -> house.add(1, 0));
        CHECK.dueThrow("below 2", house, ARGUMENT, () -> house.add(2, 0));
        CHECK.due("below 0", house.add(0, 0), 3);
        CHECK.due("below 3", house.add(3, 0), 4);
        CHECK.dueThrow("below itself", house, OUT, () -> house.add(5, 0));
        CHECK.dueThrow("below 12", house, OUT, () -> house.add(12, 0));
        for (int far : FAR) {
            CHECK.dueThrow("below " + far, house, OUT, () -> house.add(far, 0));
        }
        CHECK.due("as many as there were", house.classes(), 5);
    }

    /** "and 0 to 4 fields of its own" */
    private static void ownFields0To4() {
        Sendhouse house = new Sendhouse();
        for (int fields = 0; fields <= 4; fields++) {
            CHECK.due("own fields", house.fields(house.add(0, fields)), fields);
        }
        CHECK.dueThrow("5", house, ARGUMENT, () -> house.add(0, 5));
        for (int far : FAR) {
            CHECK.dueThrow(far + " fields", house, ARGUMENT, () -> house.add(0, far));
            CHECK.dueThrow(far + " more fields", house, ARGUMENT, () -> house.add(7, far));
        }
    }

    /** "8 in all at most" */
    private static void eightFieldsInAll() {
        Sendhouse house = new Sendhouse();
        int four = house.add(0, 4);
        int five = house.add(four, 1);
        int eight = house.add(four, 4);
        CHECK.due("8", house.fields(eight), 8);
        CHECK.dueThrow("9 as 8 and 1", house, ARGUMENT, () -> house.add(eight, 1));
        CHECK.dueThrow("12 as 8 and 4", house, ARGUMENT, () -> house.add(eight, 4));
        CHECK.due("8 and none", house.fields(house.add(eight, 0)), 8);
        CHECK.dueThrow("9 as 5 and 4", house, ARGUMENT, () -> house.add(five, 4));
        CHECK.due("8 as 5 and 3", house.fields(house.add(five, 3)), 8);
        int seven = house.add(five, 2);
        CHECK.dueThrow("9 as 7 and 2", house, ARGUMENT, () -> house.add(seven, 2));
        CHECK.due("8 as 7 and 1", house.fields(house.add(seven, 1)), 8);
    }

    /** "which are numbered behind those of the classes above" */
    private static void fieldsBehindThoseAbove() {
        Sendhouse house = family();
        Due.tell(house, 3, 0, 0, 0, "n31 F1 u r");
        Due.tell(house, 4, 1, 0, 0, "n42 F2 n45 F5 u r");
        Due.tell(house, 6, 2, 0, 0, "n57 F7 f1 f2 + r");
        int thing = house.make(0, 6);
        Due.ran(house, 0, 0);
        Due.ran(house, 0, 1);
        CHECK.due("those above are the same ones", Due.ran(house, 0, 2), "n73");
        int[] numbers = {0, 31, 42, 0, 0, 45, 0, 57};
        for (int field = 0; field < 8; field++) {
            String want = numbers[field] == 0 ? "u0" : "n" + numbers[field];
            CHECK.due("field " + field, Due.field(house, thing, field), want);
        }
        CHECK.dueThrow("no field 8", house, OUT, () -> house.fieldKind(thing, 8));
        int less = house.make(1, 4);
        CHECK.due("6 of the class between", Due.field(house, less, 5), "u0");
        CHECK.dueThrow("no field 6 there", house, OUT, () -> house.fieldKind(less, 6));
    }

    // ---- Part 3, methods

    /** "There are the selectors 0 to 15" */
    private static void selectors0To15() {
        Sendhouse house = new Sendhouse();
        for (int selector = 0; selector < 16; selector++) {
            Due.tell(house, 2, selector, 0, 0, "n" + selector + " r");
        }
        for (int selector = 0; selector < 16; selector++) {
            CHECK.due("each is its own", Due.ran(house, 0, selector), "n" + selector);
            CHECK.due("called", house.calls(2, selector), 1);
        }
        Due.type(house, "u r");
        CHECK.dueThrow("none above 15", house, OUT, () -> house.method(2, 16, 0, 0));
        for (int far : FAR) {
            CHECK.dueThrow("none at " + far, house, OUT, () -> house.method(2, far, 0, 0));
        }
    }

    /** "A method is told for a class and a selector, in place of the one there" */
    private static void inPlaceOfTheOneThere() {
        Sendhouse house = new Sendhouse();
        Due.tell(house, 2, 3, 0, 0, "n1 r");
        Due.tell(house, 0, 3, 0, 0, "n0 r");
        CHECK.due("the first", Due.ran(house, 0, 3), "n1");
        CHECK.due("told anew", Due.tell(house, 2, 3, 0, 4, "n5 n6 + r"), 4);
        CHECK.due("the one in its place", Due.ran(house, 0, 3), "n11");
        CHECK.due("its calls", house.calls(2, 3), 1);
        CHECK.due("the one of another class stays", house.calls(0, 3), 0);
        Due.tell(house, 2, 3, 1, 0, "a0 r");
        CHECK.dueThrow("with other arguments", house, UNSUPPORTED, () -> house.begin(0, 3, 0, 0, 0));
        CHECK.due("two methods", house.meanCalls(), 0.0);
        house.remove(2, 3);
        CHECK.due("the one above is there", Due.ran(house, 0, 3), "n0");
    }

    /** "it has 0 to 2 arguments" */
    private static void arguments0To2() {
        for (int arguments = 0; arguments <= 2; arguments++) {
            Sendhouse house = Due.numberHouse(7, arguments, 0, "s r");
            house.begin(0, 0, arguments, 5, 6);
            int none = arguments;
            for (int i = 0; i < arguments; i++) {
                CHECK.due("argument " + i, Due.slot(house, 0, 'a', i), "n" + (5 + i));
            }
            CHECK.dueThrow("none behind", house, NONE, () -> house.slotKind(0, 'a', none));
        }
        Sendhouse house = new Sendhouse();
        Due.type(house, "s r");
        CHECK.dueThrow("3", house, ARGUMENT, () -> house.method(0, 0, 3, 0));
        for (int far : FAR) {
            CHECK.dueThrow("arguments " + far, house, ARGUMENT, () -> house.method(0, 0, far, 0));
        }
    }

    /** "0 to 4 temporaries" */
    private static void temporaries0To4() {
        for (int temporaries = 0; temporaries <= 4; temporaries++) {
            Sendhouse house = Due.numberHouse(7, 0, temporaries, "s r");
            house.begin(0, 0, 0, 0, 0);
            int none = temporaries;
            for (int i = 0; i < temporaries; i++) {
                CHECK.due("temporary " + i, Due.slot(house, 0, 't', i), "u0");
            }
            CHECK.dueThrow("none behind", house, NONE, () -> house.slot(0, 't', none));
        }
        Sendhouse house = new Sendhouse();
        Due.type(house, "s r");
        CHECK.dueThrow("5", house, ARGUMENT, () -> house.method(0, 0, 0, 5));
        for (int far : FAR) {
            CHECK.dueThrow("temporaries " + far, house, ARGUMENT, () -> house.method(0, 0, 0, far));
        }
    }

    /** "and 1 to 24 rows, numbered from 0" */
    private static void rows1To24() {
        Sendhouse house = new Sendhouse();
        CHECK.dueThrow("none", house, UNSUPPORTED, () -> house.method(2, 0, 0, 0));
        CHECK.due("1", Due.tell(house, 2, 0, 0, 0, "j0"), 1);
        house.begin(0, 0, 0, 0, 0);
        CHECK.due("the first is 0", house.frame(0, 'r'), 0);
        CHECK.due("and jumped to", house.go(2), 2);
        house.end();
        for (int many = 2; many <= 24; many++) {
            CHECK.due("rows", Due.tell(house, 2, 0, 0, 0, "n1 " + times(many - 2, "k") + "r"), many);
            CHECK.due("all are done", Due.ran(house, 0, 0), "n1");
        }
        Due.tell(house, 2, 0, 0, 0, "j23 u p u p u p u p u p u p u p u p u p u p u p j23");
        house.begin(0, 0, 0, 0, 0);
        CHECK.due("the last can be jumped to", house.go(1), 1);
        CHECK.due("the last is 23", house.frame(0, 'r'), 23);
    }

    /** "Rows are typed, at most 24" */
    private static void typedRowsAtMost24() {
        Sendhouse house = new Sendhouse();
        for (int many = 1; many <= 24; many++) {
            CHECK.due("typed", house.row('u', 0, 0), many);
        }
        for (char letter : "nusatfgTFGdp+-*/<=kcmMjyrw".toCharArray()) {
            CHECK.dueThrow("a 25th " + letter, house, STATE, () -> house.row(letter, 0, 0));
        }
        CHECK.due("24 are wiped", house.wipe(), 24);
        CHECK.due("none then", house.wipe(), 0);
        CHECK.due("the first again", house.row('u', 0, 0), 1);
    }

    /** "to tell a method takes them" */
    private static void tellingTakesTheRows() {
        Sendhouse house = new Sendhouse();
        Due.tell(house, 2, 0, 0, 0, times(11, "u p") + "u r");
        CHECK.due("24 were taken", house.wipe(), 0);
        CHECK.dueThrow("none are there to tell", house, UNSUPPORTED, () -> house.method(2, 0, 0, 0));
        Due.type(house, "u r p");
        CHECK.due("the rows behind too", house.method(2, 1, 0, 0), 3);
        CHECK.due("all were taken", house.wipe(), 0);
        Due.type(house, times(24, "w"));
        CHECK.dueThrow("not well told", house, UNSUPPORTED, () -> house.method(2, 0, 0, 0));
        CHECK.dueThrow("wrong class", house, OUT, () -> house.method(3, 0, 0, 0));
        CHECK.dueThrow("wrong number", house, ARGUMENT, () -> house.method(2, 0, 3, 0));
        CHECK.due("who cannot tell takes none", house.wipe(), 24);
    }

    // ---- Part 3, what a row does to the pile

    /** "'n' puts the number a, 'u' nothing, 's' the receiver, 'a' the argument a, 't' .., 'f' .., 'g' the global a" */
    private static void rowsThatPut() {
        for (int number : new int[] {MIN, -1, 0, 1, MAX}) {
            CHECK.due("n", Due.outcome("n" + number + " r", 1, 2), "n" + number);
            CHECK.due("a0", Due.outcome("a0 r", number, 2), "n" + number);
            CHECK.due("a1", Due.outcome("a1 r", 1, number), "n" + number);
        }
        CHECK.due("u", Due.outcome("n1 u r", 1, 2), "u0");
        CHECK.due("s", Due.outcome("u s r", 1, 2), "n7");
        for (int i = 0; i < 4; i++) {
            CHECK.due("t", Due.outcome("n10 T0 n11 T1 n12 T2 n13 T3 t" + i + " r", 1, 2), "n" + (10 + i));
        }
        Sendhouse house = family();
        for (int i = 0; i < 8; i++) {
            int thing = house.make(0, 6);
            Due.tell(house, 6, 0, 0, 0, "n" + i + " F" + i + " f" + i + " r");
            CHECK.due("f", Due.ran(house, 0, 0), "n" + i);
            CHECK.due("the field", Due.field(house, thing, i), "n" + i);
            house.number(i, 20 + i);
            Due.tell(house, 2, 0, 0, 0, "g" + i + " r");
            Due.tell(house, 1, 0, 0, 0, "g" + i + " r");
            CHECK.due("g", Due.ran(house, 7, 0), "n" + (20 + i));
        }
    }

    /** "'T', 'F', 'G' take the top into the temporary, field, global a" */
    private static void rowsThatTakeInto() {
        Sendhouse house = family();
        Due.tell(house, 6, 0, 0, 4, "n0 n1 T0 n2 T3 n3 F0 n4 F7 n5 G0 s G7 j13");
        int thing = house.make(0, 6);
        house.begin(0, 0, 0, 0, 0);
        house.go(1);
        CHECK.due("what is below stays", Due.slot(house, 0, 'p', 0), "n0");
        CHECK.due("only that", house.frame(0, 'd'), 1);
        CHECK.due("the first temporary", Due.slot(house, 0, 't', 0), "n1");
        CHECK.due("another one", Due.slot(house, 0, 't', 1), "u0");
        CHECK.due("the last temporary", Due.slot(house, 0, 't', 3), "n2");
        CHECK.due("the first field", Due.field(house, thing, 0), "n3");
        CHECK.due("another field", Due.field(house, thing, 6), "u0");
        CHECK.due("the last field", Due.field(house, thing, 7), "n4");
        CHECK.due("the first global", Due.global(house, 0), "n5");
        CHECK.due("another global", Due.global(house, 6), "u0");
        CHECK.due("the last global", Due.global(house, 7), "o" + thing);
    }

    /** "'d' puts the top once more; 'p' takes it away" */
    private static void topOnceMoreAndAway() {
        CHECK.due("the top once more", Due.outcome("n3 n5 d * - r", 0, 0), "n-22");
        CHECK.due("nothing once more", Due.outcome("n3 u d p r", 0, 0), "u0");
        CHECK.due("the same thing", Due.outcome("c0 d = r", 0, 0), "n1");
        CHECK.due("to 8 on the pile", Due.outcome("n1 d d d d d d d + + + + + + + r", 0, 0), "n8");
        CHECK.due("away", Due.outcome("n3 n5 p r", 0, 0), "n3");
        CHECK.due("the last one away", Due.outcome("n3 p n5 r", 0, 0), "n5");
    }

    /** "'/', cut" */
    private static void divisionIsCut() {
        int[][] rows = {{7, 2, 3}, {-7, 2, -3}, {7, -2, -3}, {-7, -2, 3}, {1, 2, 0}, {-1, 2, 0}, {0, 5, 0}, {5, 5, 1},
            {MIN, 1, MIN}, {MIN, MIN, 1}, {MAX, MIN, 0}, {MIN, MAX, -1}, {MIN, 2, MIN / 2}};
        for (int[] row : rows) {
            CHECK.due(row[0] + " by " + row[1], Due.outcome("a0 a1 / r", row[0], row[1]), "n" + row[2]);
        }
    }

    /** "and '<', 1 or 0, .. the second one being the top" */
    private static void lessIs1Or0() {
        int[][] rows = {{1, 2, 1}, {2, 1, 0}, {2, 2, 0}, {-1, 0, 1}, {0, -1, 0}, {MIN, MIN + 1, 1}, {MAX, MAX, 0}};
        for (int[] row : rows) {
            CHECK.due(row[0] + " < " + row[1], Due.outcome("a0 a1 < r", row[0], row[1]), "n" + row[2]);
        }
        CHECK.due("the second one is the top", Due.outcome("a0 a1 - r", 9, 4), "n5");
    }

    /** "which must be numbers" */
    private static void bothMustBeNumbers() {
        for (char letter : "+-*/<".toCharArray()) {
            for (String first : new String[] {"n6", "u", "c0"}) {
                for (String second : new String[] {"n3", "u", "c0"}) {
                    boolean numbers = first.equals("n6") && second.equals("n3");
                    String got = Due.outcome(first + " " + second + " " + letter + " r", 0, 0);
                    CHECK.due(first + " " + letter + " " + second, got.equals("xk"), !numbers);
                }
            }
        }
    }

    /** "'=' takes two and puts 1 if they are the same value, otherwise 0" */
    private static void sameValues() {
        String[] values = {"u", "n0", "n1", "n-1", "n" + MIN, "g1", "g2", "c0"};
        for (int i = 0; i < values.length; i++) {
            for (int j = 0; j < values.length; j++) {
                Sendhouse house = new Sendhouse();
                house.make(1, 0);
                house.make(2, 0);
                Due.tell(house, 2, 0, 0, 0, values[i] + " " + values[j] + " = r");
                boolean same = i == j && !values[i].equals("c0");
                CHECK.due(values[i] + " = " + values[j], Due.ran(house, 0, 0), same ? "n1" : "n0");
            }
        }
    }

    /** "'k' takes one and puts the number of its class" */
    private static void classesOfValues() {
        CHECK.due("a number", Due.outcome("u n0 k r", 0, 0), "n1");
        CHECK.due("nothing", Due.outcome("n0 u k r", 0, 0), "n2");
        CHECK.due("a thing of 0", Due.outcome("u c0 k r", 0, 0), "n0");
        CHECK.due("takes one", Due.outcome("n40 u k + r", 0, 0), "n42");
        Sendhouse house = twelve();
        Due.tell(house, 2, 0, 0, 0, "c11 k r");
        CHECK.due("a thing of the last class", Due.ran(house, 0, 0), "n11");
    }

    /** "'c' makes a thing of the class a, and puts it" */
    private static void thingsOfAClass() {
        Sendhouse house = twelve();
        Due.tell(house, 2, 0, 0, 0, "c11 p c0 r");
        CHECK.due("the second", Due.ran(house, 0, 0), "o1");
        CHECK.due("of the last class", house.classOf(0), 11);
        CHECK.due("of the class 0", house.classOf(1), 0);
    }

    /** "'j' goes on at the row a; 'y' takes one, a number, and goes on at the row a if it is not 0; 'r' returns the top" */
    private static void goesOnAtTheRow() {
        CHECK.due("j behind", Due.outcome("n1 j3 k n2 r", 0, 0), "n2");
        CHECK.due("j to the next", Due.outcome("n1 j2 r", 0, 0), "n1");
        for (int number : new int[] {MIN, -1, 1, 2, 1 << 16, MAX}) {
            CHECK.due("y with " + number, Due.outcome("a0 y4 n1 r n2 r", number, 0), "n2");
        }
        CHECK.due("y with 0", Due.outcome("a0 y4 n1 r n2 r", 0, 0), "n1");
        CHECK.due("y takes one", Due.outcome("n5 n1 y3 r", 0, 0), "n5");
        CHECK.due("y with nothing", Due.outcome("u y2 n1 r", 0, 0), "xk");
        CHECK.due("y with the thing 0", Due.outcome("c0 y2 n1 r", 0, 0), "xk");
        CHECK.due("r, the top", Due.outcome("n5 n1 r", 0, 0), "n1");
    }

    /** "But for 'j', 'y' and 'r' the row behind is next" */
    private static void rowBehindIsNext() {
        String all = "n1 p u p s p a0 p t0 p g0 p n1 T0 n1 G1 n1 d + p u k p";
        dueStandsAtTheEnd(all);
        dueStandsAtTheEnd("n1 n2 + n3 - n4 * n5 / n6 < n7 = w c0 p");
        dueStandsAtTheEnd("f0 p n1 F0");
        dueStandsAtTheEnd("s m2,0 p s M2,0 p");
    }

    private static void dueStandsAtTheEnd(String rows) {
        int end = rows.split(" ").length;
        Sendhouse house = family();
        house.make(0, 4);
        Due.tell(house, 3, 2, 0, 0, "u r");
        Due.tell(house, 4, 1, 1, 1, rows + " j" + end);
        house.begin(0, 1, 1, 9, 0);
        house.go(20);
        CHECK.due("stands at the end of " + rows, house.state(), 's');
        CHECK.due("frames of " + rows, house.frames(), 1);
        CHECK.due("row of " + rows, house.frame(0, 'r'), end);
    }

    /** "Numbers that a row does not name are of no meaning" */
    private static void numbersNotNamed() {
        for (int a : new int[] {MIN, -1, 0, 1, 99, MAX}) {
            String ab = a + "," + -a;
            String none = "," + a;
            CHECK.due("u", Due.outcome("u" + ab + " r" + ab, 1, 2), "u0");
            CHECK.due("s", Due.outcome("s" + ab + " r", 1, 2), "n7");
            CHECK.due("d p w", Due.outcome("s d" + ab + " w" + ab + " d p" + ab + " r", 1, 2), "n7");
            CHECK.due("k", Due.outcome("s k" + ab + " r", 1, 2), "n1");
            for (char letter : TWO_TAKEN.toCharArray()) {
                String plain = Due.outcome("n6 n3 " + letter + " r", 1, 2);
                CHECK.due("" + letter, Due.outcome("n6 n3 " + letter + ab + " r", 1, 2), plain);
            }
            CHECK.due("n", Due.outcome("n5" + none + " r", 1, 2), "n5");
            CHECK.due("a t g", Due.outcome("a1" + none + " T3" + none + " t3" + none + " G1" + none + " g1" + none
                    + " r", 1, 2), "n2");
            CHECK.due("c", Due.outcome("c0" + none + " r", 1, 2), "o0");
            CHECK.due("j y", Due.outcome("j2" + none + " r n1 y6" + none + " u r n3 r", 1, 2), "n3");
            Sendhouse house = family();
            house.make(0, 3);
            Due.tell(house, 3, 0, 0, 0, "n8 F1" + none + " f1" + none + " r");
            CHECK.due("f", Due.ran(house, 0, 0), "n8");
        }
    }

    // ---- Part 3, well told

    /** "if, from row 0 on, with an empty pile" */
    private static void fromRow0WithAnEmptyPile() {
        for (char letter : ONE_TAKEN.toCharArray()) {
            CHECK.due("first " + letter, can(3, 1, 1, letter + "0 u r"), false);
        }
        for (char letter : TWO_TAKEN.toCharArray()) {
            CHECK.due("first " + letter, can(3, 1, 1, letter + " r"), false);
        }
        CHECK.due("first m", can(3, 1, 1, "m0,0 r"), false);
        CHECK.due("first M", can(3, 1, 1, "M0,0 r"), false);
        for (char letter : NO_VALUE_TAKEN.toCharArray()) {
            String rows = letter == 'j' ? "j1 u r" : letter + "0 r";
            CHECK.due("first " + letter, can(3, 1, 1, rows), true);
        }
        dueTold("u j0", false);
        dueTold("u p j0", true);
    }

    /** "'y' going both ways" */
    private static void bothWaysOfY() {
        dueTold("n1 y4 u r n1", false);
        dueTold("n1 y4 u r n1 r", true);
        dueTold("n1 y4 p r n1 r", false);
        dueTold("n0 y4 u r p r", false);
        dueTold("n1 y3 r u r", false);
        dueTold("n0 y2 u r", true);
        dueTold("n0 y2", false);
        dueTold("n0 y4 u r", false);
        dueTold("n0 y-1 u r", false);
        dueTold("n1 y3 a1 u r", false);
        dueTold("n0 y4 u r a1 r", false);
    }

    /** "is always come to with as many values on the pile" */
    private static void alwaysAsManyValues() {
        dueTold("n1 y3 u u r", false);
        dueTold("n1 y4 u j5 u r", true);
        dueTold("n1 y5 u u j7 u u r", true);
        dueTold("n1 y5 u u j6 u r", false);
        dueTold("n1 y5 u u j6 u u r", false);
        dueTold("u n1 y1 r", true);
        dueTold("u n1 y0 r", false);
        dueTold("u p n1 y0 u r", true);
        dueTold("u d w j1", true);
        dueTold("u d j1", false);
        dueTold("u u w j1", true);
        dueTold("u u w j2", false);
        dueTold("n1 n2 y0 r", false);
        dueTold("n1 y0 u r", true);
    }

    /** "8 at most" */
    private static void eightValuesAtMost() {
        dueTold(times(8, "u") + "r", true);
        dueTold(times(9, "u") + "r", false);
        dueTold(times(9, "u") + "p r", false);
        dueTold(times(9, "u") + "+ r", false);
        dueTold("u " + times(7, "d") + "r", true);
        dueTold("u " + times(8, "d") + "r", false);
        dueTold(times(8, "u") + "j8", true);
        dueTold(times(9, "u") + "j9", false);
        dueTold(times(8, "u") + "+ u p r", true);
        dueTold(times(8, "u") + "y9 r", true);
    }

    /** "8 at most", with each letter at 8 values and at 7. */
    private static void eightValuesAtEachLetter() {
        for (char letter : "nusatfgcd".toCharArray()) {
            CHECK.due("at 7: " + letter, can(3, 1, 1, times(7, "u") + letter + "0 r"), true);
            CHECK.due("at 8: " + letter, can(3, 1, 1, times(8, "u") + letter + "0 r"), false);
            CHECK.due("at 8 and taken: " + letter, can(3, 1, 1, times(8, "u") + letter + "0 p r"), false);
        }
        for (char letter : "TFGpkyw+-*/<=".toCharArray()) {
            String a = letter == 'y' ? "9" : "0";
            CHECK.due("at 8: " + letter, can(3, 1, 1, times(8, "u") + letter + a + " r"), true);
        }
        for (int arguments = 0; arguments <= 2; arguments++) {
            CHECK.due("at 8: m", can(3, 1, 1, times(8, "u") + "m0," + arguments + " r"), true);
            CHECK.due("at 8: M", can(3, 1, 1, times(8, "u") + "M0," + arguments + " r"), true);
        }
    }

    /** "and no row takes more than there are" */
    private static void noRowTakesMore() {
        for (char letter : ONE_TAKEN.toCharArray()) {
            String rows = letter == 'r' ? "r" : letter == 'y' ? "y2 u r" : letter + "0 u r";
            CHECK.due("one: " + letter, can(3, 1, 1, "u " + rows), true);
            CHECK.due("none: " + letter, can(3, 1, 1, "u p " + rows.replace('2', '4')), false);
        }
        for (char letter : TWO_TAKEN.toCharArray()) {
            dueTold("u u " + letter + " r", true);
            dueTold("u " + letter + " r", false);
            dueTold("u p " + letter + " r", false);
            dueTold("u u " + letter + " w u r", true);
            dueTold("u u " + letter + " w w u r", false);
        }
        for (int arguments = 0; arguments <= 2; arguments++) {
            for (char letter : "mM".toCharArray()) {
                dueTold(times(arguments + 1, "u") + letter + "0," + arguments + " r", true);
                dueTold(times(arguments, "u") + letter + "0," + arguments + " r", false);
                dueTold(times(arguments + 1, "u") + letter + "0," + arguments + " p r", false);
            }
        }
    }

    /** "and if each such row is there" */
    private static void eachRowIsThere() {
        dueTold("u", false);
        dueTold("u p", false);
        dueTold("u w", false);
        dueTold("s m0,0", false);
        dueTold("j0", true);
        dueTold("j1", false);
        dueTold("j1 j0", true);
        dueTold("j2 j0", false);
        for (int far : FAR) {
            dueTold("j" + far, false);
            dueTold("u y" + far + " u r", false);
        }
        dueTold("u y4 j3 u r", false);
        dueTold("u y3 j3 u r", true);
        dueTold("u y4 u r", false);
        dueTold(times(11, "u p") + "u r", true);
        dueTold(times(12, "u p"), false);
        dueTold(times(11, "u p") + "n1 y0", false);
        dueTold(times(11, "u p") + "j22 j23", true);
        dueTold(times(11, "u p") + "j22 j24", true);
        dueTold(times(11, "u p") + "j23 j24", false);
        dueTold(times(11, "u p") + "j23 j0", true);
    }

    private static void dueNames(String what, int cls, int arguments, int temporaries, int many, String rows) {
        for (int number = -1; number <= 10; number++) {
            String named = rows.replace("#", "" + number);
            boolean there = number >= 0 && number < many;
            CHECK.due(what + ": " + named + " of " + many, can(cls, arguments, temporaries, named), there);
        }
        for (int far : FAR) {
            String named = rows.replace("#", "" + far);
            CHECK.due(what + ": " + named, can(cls, arguments, temporaries, named), false);
        }
    }

    /** "and names an argument .. that there are" */
    private static void namesAnArgument() {
        for (int arguments = 0; arguments <= 2; arguments++) {
            dueNames("an argument", 0, arguments, 4, arguments, "a# r");
        }
    }

    /** "a temporary" */
    private static void namesATemporary() {
        for (int temporaries = 0; temporaries <= 4; temporaries++) {
            dueNames("a temporary to put", 0, 2, temporaries, temporaries, "t# r");
            dueNames("a temporary to take into", 0, 2, temporaries, temporaries, "u T# u r");
        }
    }

    /** "a field of the class" */
    private static void namesAField() {
        int[] fields = {0, 0, 0, 2, 6, 8, 8};
        for (int cls = 0; cls < fields.length; cls++) {
            dueNames("a field to put", cls, 2, 4, fields[cls], "f# r");
            dueNames("a field to take into", cls, 2, 4, fields[cls], "u F# u r");
        }
    }

    /** "a global" */
    private static void namesAGlobal() {
        dueNames("a global to put", 0, 0, 0, 8, "g# r");
        dueNames("a global to take into", 0, 0, 0, 8, "u G# u r");
    }

    /** "a class but 1 and 2" */
    private static void namesAClass() {
        for (int number = -1; number <= 13; number++) {
            boolean there = number >= 0 && number < 7 && number != 1 && number != 2;
            CHECK.due("7 classes: c" + number, can(0, 0, 0, "c" + number + " r"), there);
            there = number >= 0 && number < 12 && number != 1 && number != 2;
            CHECK.due("12 classes: c" + number, Due.canTell(twelve(), 0, 0, 0, "c" + number + " r"), there);
        }
        for (int far : FAR) {
            CHECK.due("c" + far, can(0, 0, 0, "c" + far + " r"), false);
        }
        Sendhouse house = new Sendhouse();
        CHECK.due("not there yet", Due.canTell(house, 0, 0, 0, "c3 r"), false);
        house.add(0, 0);
        CHECK.due("there then", Due.canTell(house, 0, 0, 0, "c3 r"), true);
    }

    /** "a selector" */
    private static void namesASelector() {
        for (int number = -1; number <= 17; number++) {
            boolean there = number >= 0 && number < 16;
            dueTold("u m" + number + ",0 r", there);
            dueTold("u M" + number + ",0 r", there);
        }
        for (int far : FAR) {
            dueTold("u m" + far + ",0 r", false);
            dueTold("u M" + far + ",0 r", false);
        }
    }

    /** "arguments 0 to 2" */
    private static void namesArguments0To2() {
        for (int many = -2; many <= 9; many++) {
            boolean there = many >= 0 && many <= 2;
            dueTold(times(8, "u") + "m0," + many + " r", there);
            dueTold(times(8, "u") + "M0," + many + " r", there);
        }
        for (int far : FAR) {
            dueTold(times(8, "u") + "m0," + far + " r", false);
            dueTold(times(8, "u") + "M0," + far + " r", false);
        }
    }

    /** "each row to which it can come": others are not looked at. */
    private static void rowsThatCannotBeComeTo() {
        dueTold("u r +", true);
        dueTold("u r a9 t9 f9 g9 c9 m99,99 j99", true);
        dueTold("j2 p u r", true);
        dueTold("j3 y99 m16,3 u r " + times(19, "u"), true);
        dueTold("j0 p", true);
        dueTold("n0 y4 u r u r w", true);
        dueTold("n1 y5 u r p u r", true);
    }

    /** "Others cannot be told" */
    private static void othersCannotBeTold() {
        Supplier<Sendhouse> maker = () -> {
            Sendhouse house = Due.numberHouse(7, 0, 0, "n1 r");
            house.begin(0, 0, 0, 0, 0);
            Due.type(house, "n2 +");
            return house;
        };
        CHECK.dueRefused("not well told", maker, UNSUPPORTED, it -> it.method(1, 0, 0, 0));
        Sendhouse house = maker.get();
        CHECK.due("refused", Due.answerOf(house, it -> it.method(1, 0, 0, 0)), "UnsupportedOperationException");
        CHECK.due("the one there stays", house.calls(1, 0), 1);
        CHECK.due("the rows stay", house.wipe(), 2);
        house.end();
        CHECK.due("it does what it did", Due.ran(house, 0, 0), "n1");
        CHECK.due("others can be told then", Due.tell(house, 1, 0, 0, 0, "j1 n3 r"), 3);
        CHECK.due("and do what they say", Due.ran(house, 0, 0), "n3");
        Due.type(house, "u n1 y4 p");
        CHECK.dueThrow("a row is missing", house, UNSUPPORTED, () -> house.method(1, 0, 0, 0));
        Due.type(house, "u r");
        CHECK.dueThrow("still not well told", house, UNSUPPORTED, () -> house.method(1, 0, 0, 0));
        house.wipe();
        Due.type(house, "u n1 y3");
        CHECK.dueThrow("a row is missing again", house, UNSUPPORTED, () -> house.method(1, 0, 0, 0));
        CHECK.due("the row that was missing", house.row('r', 0, 0), 4);
        CHECK.due("told then", house.method(1, 0, 0, 0), 4);
    }
}

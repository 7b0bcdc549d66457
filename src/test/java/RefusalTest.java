import java.util.EnumMap;
import java.util.List;
import java.util.Map;

/**
 * Each exception of each method, by the sentence that names it: numbers just too small and just too
 * large, far too small and far too large, nothing there yet, and full. After each refused call the
 * checker answers all as one that was never asked: 'A method that throws an exception changes nothing.'
 */
public final class RefusalTest {
    private static final Class<?> INDEX = IndexOutOfBoundsException.class;
    private static final Class<?> ARGUMENT = IllegalArgumentException.class;
    private static final Class<?> STATE = IllegalStateException.class;
    private static final int LEAST = Integer.MIN_VALUE;
    private static final int GREATEST = Integer.MAX_VALUE;

    private static final Due due = new Due();
    private static final Map<State, List<Object>> untouched = new EnumMap<>(State.class);

    /** A call that takes a condition; its other arguments are right. */
    private interface Conditioned {
        Object on(ProductLineChecker x, int on, int off);
    }

    /** A call that takes a number that is tested; its other arguments are right. */
    private interface Numbered {
        Object on(ProductLineChecker x, int number);
    }

    public static void main(String[] args) {
        promise2();
        promise3();
        promise5();
        promise6();
        promise7();
        promise8();
        promise8OfParameters();
        promise9();
        promise10();
        promise11();
        promise12();
        promise13();
        promise13OfArguments();
        promise14();
        promise15();
        promise16();
        promise17();
        promise18();
        promise19();
        promise20();
        promise21();
        promise22();
        promise24();
        promise26();
        due.end();
    }

    private static void refuses(String call, State state, Class<?> want, Answers.Use use) {
        ProductLineChecker x = state.make();
        Object got = Answers.answer(x, use);
        String where = call + " where it is " + state;
        if (got != want) {
            due.fail(where + " answered " + got + ", due is " + want);
        }
        if (!untouched.containsKey(state)) {
            untouched.put(state, Answers.of(state.make()));
        }
        if (!Answers.of(x).equals(untouched.get(state))) {
            due.fail(where + " changed the checker");
        }
    }

    private static void refusesEach(String call, State state, Class<?> want, int[] numbers, Numbered use) {
        for (int number : numbers) {
            refuses(call + " " + number, state, want, x -> use.on(x, number));
        }
    }

    /** Just outside of least to greatest, far outside, and what shifts or narrow numbers would take for inside. */
    private static int[] outside(int least, int greatest) {
        return new int[] {least - 1, least - 2, least - 32, least - 256, least - 65536, LEAST, LEAST + 1,
            greatest + 1, greatest + 2, Math.max(least + 32, greatest + 1), greatest + 32, least + 256, least + 65536,
            GREATEST - 1, GREATEST};
    }

    /** 'if on or off is not 0 to 15, or they have a feature in common' */
    private static void refusesConditions(String call, State state, Conditioned use) {
        for (int number : outside(0, 15)) {
            refuses(call + " on " + number, state, ARGUMENT, x -> use.on(x, number, 0));
            refuses(call + " off " + number, state, ARGUMENT, x -> use.on(x, 0, number));
        }
        int[][] common = {{1, 1}, {2, 2}, {4, 4}, {8, 8}, {15, 8}, {1, 15}, {6, 12}, {15, 15}};
        for (int[] pair : common) {
            refuses(call + " on " + pair[0] + " off " + pair[1], state, ARGUMENT, x -> use.on(x, pair[0], pair[1]));
        }
    }

    private static void promise2() {
        // 'IllegalArgumentException if kind is not 0 or 1, or f or g is not 0 to 3'
        for (State state : new State[] {State.EMPTY, State.SOME}) {
            refusesEach("addRule of kind", state, ARGUMENT, outside(0, 1), (x, kind) -> x.addRule(kind, 0, 1));
            refusesEach("addRule of f", state, ARGUMENT, outside(0, 3), (x, f) -> x.addRule(0, f, 1));
            refusesEach("addRule of g", state, ARGUMENT, outside(0, 3), (x, g) -> x.addRule(1, 0, g));
        }
        // 'IllegalStateException if there are 8 rules'
        for (State state : new State[] {State.FULL_OF_RULES, State.FULL}) {
            refuses("addRule(0, 0, 0)", state, STATE, x -> x.addRule(0, 0, 0));
            refuses("addRule(1, 3, 3)", state, STATE, x -> x.addRule(1, 3, 3));
            // 'the one that is named first is thrown'
            refuses("addRule(2, 0, 0)", state, ARGUMENT, x -> x.addRule(2, 0, 0));
            refuses("addRule(-1, 0, 0)", state, ARGUMENT, x -> x.addRule(-1, 0, 0));
            refuses("addRule(0, 4, 0)", state, ARGUMENT, x -> x.addRule(0, 4, 0));
            refuses("addRule(0, 0, -1)", state, ARGUMENT, x -> x.addRule(0, 0, -1));
        }
    }

    private static void promise3() {
        // 'IllegalStateException if there is none'
        refuses("dropRule", State.EMPTY, STATE, x -> x.dropRule());
        ProductLineChecker x = State.FULL_OF_RULES.make();
        for (int left = 7; left >= 0; left--) {
            due.is("dropRule of " + (left + 1), x.dropRule(), left);
        }
        due.throwing("dropRule when all are dropped", IllegalStateException.class, x, () -> x.dropRule());
        due.is("addRule when all are dropped", x.addRule(0, 0, 1), 1);
    }

    private static void promise5() {
        refusesConditions("addClass", State.EMPTY, (x, on, off) -> x.addClass(on, off));
        refusesConditions("addClass", State.SOME, (x, on, off) -> x.addClass(on, off));
        // 'IllegalStateException if there are 8 classes'
        for (State state : new State[] {State.FULL_OF_CLASSES, State.FULL}) {
            refuses("addClass", state, STATE, x -> x.addClass(0, 0));
            // 'the one that is named first is thrown'
            refusesConditions("addClass", state, (x, on, off) -> x.addClass(on, off));
        }
    }

    private static void promise6() {
        // 'IndexOutOfBoundsException if there is no such class'
        refuses("addLink(0, 0, ..)", State.EMPTY, INDEX, x -> x.addLink(0, 0, 0, 0));
        refusesEach("addLink of", State.SOME, INDEX, outside(0, 2), (x, of) -> x.addLink(of, 0, 0, 0));
        refusesEach("addLink to", State.SOME, INDEX, outside(0, 2), (x, to) -> x.addLink(0, to, 0, 0));
        refusesEach("addLink of", State.FULL_OF_CLASSES, INDEX, outside(0, 7), (x, of) -> x.addLink(of, 0, 0, 0));
        refusesEach("addLink to", State.FULL_OF_CLASSES, INDEX, outside(0, 7), (x, to) -> x.addLink(0, to, 0, 0));
        refusesConditions("addLink", State.SOME, (x, on, off) -> x.addLink(0, 2, on, off));
        // 'IllegalStateException if there are 12 links'
        for (State state : new State[] {State.FULL_OF_LINKS, State.FULL}) {
            refuses("addLink", state, STATE, x -> x.addLink(2, 1, 0, 0));
            // 'the one that is named first is thrown'
            refuses("addLink(8, ..)", state, INDEX, x -> x.addLink(8, 1, 0, 0));
            refuses("addLink(2, -1, ..)", state, INDEX, x -> x.addLink(2, -1, 0, 0));
            refuses("addLink(-1, 1, 16, 0)", state, INDEX, x -> x.addLink(-1, 1, 16, 0));
            refusesConditions("addLink", state, (x, on, off) -> x.addLink(2, 1, on, off));
        }
        refuses("addLink(3, 0, 1, 1)", State.SOME, INDEX, x -> x.addLink(3, 0, 1, 1));
        refuses("addLink(0, 3, -1, 0)", State.SOME, INDEX, x -> x.addLink(0, 3, -1, 0));
        refuses("addLink(0, 0, 1, 1)", State.EMPTY, INDEX, x -> x.addLink(0, 0, 1, 1));
    }

    private static void promise7() {
        // 'IndexOutOfBoundsException if there is no such class'
        refuses("addField(0, ..)", State.EMPTY, INDEX, x -> x.addField(0, 0, 8, 0, 0));
        refusesEach("addField of", State.SOME, INDEX, outside(0, 2), (x, of) -> x.addField(of, 0, 8, 0, 0));
        refusesEach("addField of", State.FULL_OF_CLASSES, INDEX, outside(0, 7), (x, of) -> x.addField(of, 0, 8, 0, 0));
        // 'IllegalArgumentException if name is not 0 to 9'
        refusesEach("addField named", State.SOME, ARGUMENT, outside(0, 9), (x, name) -> x.addField(0, name, 8, 0, 0));
        // 'type is neither 8 nor a class that there is'
        int[] noTypes = {-1, -2, LEAST, 3, 4, 7, 9, 10, 32, 40, 256 + 8, GREATEST};
        refusesEach("addField of type", State.SOME, ARGUMENT, noTypes, (x, type) -> x.addField(0, 0, type, 0, 0));
        int[] never = {-1, LEAST, 9, 10, 32, 40, GREATEST};
        refusesEach("addField of type", State.FULL_OF_CLASSES, ARGUMENT, never, (x, type) -> x.addField(0, 0, type, 0, 0));
        refusesConditions("addField", State.SOME, (x, on, off) -> x.addField(0, 0, 8, on, off));
        // 'IllegalStateException if there are 24 members'
        for (State state : new State[] {State.FULL_OF_MEMBERS, State.FULL}) {
            refuses("addField", state, STATE, x -> x.addField(2, 9, 8, 0, 0));
            // 'the one that is named first is thrown'
            refuses("addField(8, ..)", state, INDEX, x -> x.addField(8, 9, 8, 0, 0));
            refuses("addField of name 10", state, ARGUMENT, x -> x.addField(2, 10, 8, 0, 0));
            refuses("addField of name -1", state, ARGUMENT, x -> x.addField(2, -1, 8, 0, 0));
            refuses("addField of type 9", state, ARGUMENT, x -> x.addField(2, 9, 9, 0, 0));
            refusesConditions("addField", state, (x, on, off) -> x.addField(2, 9, 8, on, off));
        }
        refuses("addField(3, 10, ..)", State.SOME, INDEX, x -> x.addField(3, 10, 8, 0, 0));
        refuses("addField(-1, 0, 9, ..)", State.SOME, INDEX, x -> x.addField(-1, 0, 9, 0, 0));
        refuses("addField(3, 0, 8, 1, 1)", State.SOME, INDEX, x -> x.addField(3, 0, 8, 1, 1));
        refuses("addField(0, -1, 9, 1, 1)", State.EMPTY, INDEX, x -> x.addField(0, -1, 9, 1, 1));
    }

    private static void promise8() {
        // 'IndexOutOfBoundsException if there is no such class'
        refuses("addMethod(0, ..)", State.EMPTY, INDEX, x -> x.addMethod(0, 0, 8, -1, -1, 0, 0));
        refusesEach("addMethod of", State.SOME, INDEX, outside(0, 2), (x, of) -> x.addMethod(of, 0, 8, -1, -1, 0, 0));
        refusesEach("addMethod of", State.FULL_OF_CLASSES, INDEX, outside(0, 7),
                (x, of) -> x.addMethod(of, 0, 8, -1, -1, 0, 0));
        // 'IllegalArgumentException if name is not 0 to 9'
        refusesEach("addMethod named", State.SOME, ARGUMENT, outside(0, 9),
                (x, name) -> x.addMethod(0, name, 8, -1, -1, 0, 0));
        refusesConditions("addMethod", State.SOME, (x, on, off) -> x.addMethod(0, 0, 8, -1, -1, on, off));
        refusesConditions("addMethod", State.SOME, (x, on, off) -> x.addMethod(0, 0, 8, 8, 2, on, off));
        // 'IllegalStateException if there are 24 members'
        for (State state : new State[] {State.FULL_OF_MEMBERS, State.FULL}) {
            refuses("addMethod", state, STATE, x -> x.addMethod(2, 9, 8, -1, -1, 0, 0));
            refuses("addMethod", state, STATE, x -> x.addMethod(2, 9, 8, 8, 2, 0, 0));
            // 'the one that is named first is thrown'
            refuses("addMethod(8, ..)", state, INDEX, x -> x.addMethod(8, 9, 8, -1, -1, 0, 0));
            refuses("addMethod of name 10", state, ARGUMENT, x -> x.addMethod(2, 10, 8, -1, -1, 0, 0));
            refuses("addMethod of type 9", state, ARGUMENT, x -> x.addMethod(2, 9, 9, -1, -1, 0, 0));
            refuses("addMethod of first 9", state, ARGUMENT, x -> x.addMethod(2, 9, 8, 9, -1, 0, 0));
            refuses("addMethod of second -2", state, ARGUMENT, x -> x.addMethod(2, 9, 8, 8, -2, 0, 0));
            refuses("addMethod of second alone", state, ARGUMENT, x -> x.addMethod(2, 9, 8, -1, 8, 0, 0));
            refusesConditions("addMethod", state, (x, on, off) -> x.addMethod(2, 9, 8, -1, -1, on, off));
        }
        refuses("addMethod(3, 10, ..)", State.SOME, INDEX, x -> x.addMethod(3, 10, 8, -1, -1, 0, 0));
        refuses("addMethod(-1, 0, 9, ..)", State.SOME, INDEX, x -> x.addMethod(-1, 0, 9, -1, -1, 0, 0));
        refuses("addMethod(3, 0, 8, -2, ..)", State.SOME, INDEX, x -> x.addMethod(3, 0, 8, -2, -1, 0, 0));
        refuses("addMethod(3, 0, 8, -1, 8, ..)", State.SOME, INDEX, x -> x.addMethod(3, 0, 8, -1, 8, 0, 0));
        refuses("addMethod(3, 0, 8, -1, -1, 1, 1)", State.SOME, INDEX, x -> x.addMethod(3, 0, 8, -1, -1, 1, 1));
    }

    private static void promise8OfParameters() {
        int[] noTypes = {-2, -3, LEAST, 3, 4, 7, 9, 10, 32, 40, 256 + 8, GREATEST};
        // 'type is neither 8 nor a class that there is'
        refuses("addMethod of type -1", State.SOME, ARGUMENT, x -> x.addMethod(0, 0, -1, -1, -1, 0, 0));
        refusesEach("addMethod of type", State.SOME, ARGUMENT, noTypes,
                (x, type) -> x.addMethod(0, 0, type, -1, -1, 0, 0));
        // 'first or second is neither -1, nor 8, nor a class that there is'
        refusesEach("addMethod of first", State.SOME, ARGUMENT, noTypes,
                (x, first) -> x.addMethod(0, 0, 8, first, -1, 0, 0));
        refusesEach("addMethod of two, first", State.SOME, ARGUMENT, noTypes,
                (x, first) -> x.addMethod(0, 0, 8, first, 8, 0, 0));
        refusesEach("addMethod of second", State.SOME, ARGUMENT, noTypes,
                (x, second) -> x.addMethod(0, 0, 8, 8, second, 0, 0));
        refusesEach("addMethod without first, second", State.SOME, ARGUMENT, noTypes,
                (x, second) -> x.addMethod(0, 0, 8, -1, second, 0, 0));
        int[] never = {-2, LEAST, 9, 10, 32, 40, GREATEST};
        refusesEach("addMethod of first", State.FULL_OF_CLASSES, ARGUMENT, never,
                (x, first) -> x.addMethod(0, 0, 8, first, -1, 0, 0));
        refusesEach("addMethod of second", State.FULL_OF_CLASSES, ARGUMENT, never,
                (x, second) -> x.addMethod(0, 0, 8, 8, second, 0, 0));
        // 'second is not -1 while first is'
        int[] types = {0, 1, 2, 8};
        refusesEach("addMethod without first, second", State.SOME, ARGUMENT, types,
                (x, second) -> x.addMethod(0, 0, 8, -1, second, 0, 0));
    }

    private static void promise9() {
        // 'IndexOutOfBoundsException if there is no such method (a field is none), or no such class'
        refuses("addNew(0, 0)", State.EMPTY, INDEX, x -> x.addNew(0, 0));
        refusesEach("addNew in", State.SOME, INDEX, outside(0, 3), (x, method) -> x.addNew(method, 0));
        refusesEach("addNew in", State.FULL_OF_MEMBERS, INDEX, outside(0, 23), (x, method) -> x.addNew(method, 0));
        refuses("addNew in a field", State.SOME, INDEX, x -> x.addNew(1, 0));
        refuses("addNew in the last field", State.FULL_OF_MEMBERS, INDEX, x -> x.addNew(22, 0));
        refusesEach("addNew of", State.SOME, INDEX, outside(0, 2), (x, made) -> x.addNew(0, made));
        refusesEach("addNew of", State.FULL_OF_CLASSES, INDEX, outside(0, 7), (x, made) -> x.addNew(0, made));
        // 'IllegalStateException if there are 50 expressions'
        for (State state : new State[] {State.FULL_OF_EXPRESSIONS, State.FULL}) {
            refuses("addNew", state, STATE, x -> x.addNew(0, 2));
            // 'the one that is named first is thrown'
            refuses("addNew(24, 0)", state, INDEX, x -> x.addNew(24, 0));
            refuses("addNew(-1, 0)", state, INDEX, x -> x.addNew(-1, 0));
            refuses("addNew(0, 8)", state, INDEX, x -> x.addNew(0, 8));
            refuses("addNew(0, -1)", state, INDEX, x -> x.addNew(0, -1));
        }
        refuses("addNew in a field", State.FULL_OF_EXPRESSIONS, INDEX, x -> x.addNew(1, 0));
    }

    private static void promise10() {
        // 'IndexOutOfBoundsException if there is no such method (a field is none)'
        for (boolean isSelf : new boolean[] {true, false}) {
            refuses("addPlain(0, ..)", State.EMPTY, INDEX, x -> x.addPlain(0, isSelf));
            refusesEach("addPlain in", State.SOME, INDEX, outside(0, 3), (x, method) -> x.addPlain(method, isSelf));
            refuses("addPlain in a field", State.SOME, INDEX, x -> x.addPlain(1, isSelf));
            refuses("addPlain(24, ..)", State.FULL_OF_MEMBERS, INDEX, x -> x.addPlain(24, isSelf));
            // 'IllegalStateException if there are 50 expressions'
            for (State state : new State[] {State.FULL_OF_EXPRESSIONS, State.FULL}) {
                refuses("addPlain", state, STATE, x -> x.addPlain(0, isSelf));
                // 'the one that is named first is thrown'
                refuses("addPlain(24, ..)", state, INDEX, x -> x.addPlain(24, isSelf));
                refuses("addPlain(-1, ..)", state, INDEX, x -> x.addPlain(-1, isSelf));
            }
            refuses("addPlain in a field", State.FULL_OF_EXPRESSIONS, INDEX, x -> x.addPlain(1, isSelf));
        }
    }

    private static void promise11() {
        // 'IndexOutOfBoundsException if there is no such method (a field is none), or it has no such parameter'
        refuses("addArgument(0, 0)", State.EMPTY, INDEX, x -> x.addArgument(0, 0));
        refusesEach("addArgument in", State.SOME, INDEX, outside(0, 3), (x, method) -> x.addArgument(method, 0));
        refuses("addArgument in a field", State.SOME, INDEX, x -> x.addArgument(1, 0));
        refuses("addArgument in a field, -1", State.SOME, INDEX, x -> x.addArgument(1, -1));
        refusesEach("addArgument of 2,", State.SOME, INDEX, outside(0, 1), (x, index) -> x.addArgument(0, index));
        refusesEach("addArgument of 1,", State.SOME, INDEX, outside(0, 0), (x, index) -> x.addArgument(2, index));
        refusesEach("addArgument of 0,", State.SOME, INDEX, outside(0, -1), (x, index) -> x.addArgument(3, index));
        // 'IllegalStateException if there are 50 expressions'
        for (State state : new State[] {State.FULL_OF_EXPRESSIONS, State.FULL}) {
            refuses("addArgument(0, 0)", state, STATE, x -> x.addArgument(0, 0));
            refuses("addArgument(0, 1)", state, STATE, x -> x.addArgument(0, 1));
            // 'the one that is named first is thrown'
            refuses("addArgument(0, 2)", state, INDEX, x -> x.addArgument(0, 2));
            refuses("addArgument(0, -1)", state, INDEX, x -> x.addArgument(0, -1));
            refuses("addArgument(24, 0)", state, INDEX, x -> x.addArgument(24, 0));
        }
        refuses("addArgument in a field", State.FULL_OF_EXPRESSIONS, INDEX, x -> x.addArgument(1, 0));
        refuses("addArgument of 1, 1", State.FULL_OF_EXPRESSIONS, INDEX, x -> x.addArgument(2, 1));
    }

    private static void promise12() {
        // 'IndexOutOfBoundsException if there is no such expression' - its own number is none yet
        refuses("addFieldOf(0, 0)", State.EMPTY, INDEX, x -> x.addFieldOf(0, 0));
        refusesEach("addFieldOf", State.SOME, INDEX, outside(0, 3), (x, e) -> x.addFieldOf(e, 0));
        // 'IllegalArgumentException if name is not 0 to 9'
        refusesEach("addFieldOf named", State.SOME, ARGUMENT, outside(0, 9), (x, name) -> x.addFieldOf(0, name));
        // 'IllegalStateException if there are 50 expressions'
        for (State state : new State[] {State.FULL_OF_EXPRESSIONS, State.FULL}) {
            refuses("addFieldOf(0, 0)", state, STATE, x -> x.addFieldOf(0, 0));
            refuses("addFieldOf(49, 9)", state, STATE, x -> x.addFieldOf(49, 9));
            // 'the one that is named first is thrown'
            refusesEach("addFieldOf", state, INDEX, outside(0, 49), (x, e) -> x.addFieldOf(e, 0));
            refuses("addFieldOf(50, 10)", state, INDEX, x -> x.addFieldOf(50, 10));
            refuses("addFieldOf(0, 10)", state, ARGUMENT, x -> x.addFieldOf(0, 10));
            refuses("addFieldOf(0, -1)", state, ARGUMENT, x -> x.addFieldOf(0, -1));
        }
        refuses("addFieldOf(4, 10)", State.SOME, INDEX, x -> x.addFieldOf(4, 10));
        refuses("addFieldOf(-1, -1)", State.SOME, INDEX, x -> x.addFieldOf(-1, -1));
        refuses("addFieldOf(0, 10)", State.EMPTY, INDEX, x -> x.addFieldOf(0, 10));
    }

    private static void promise13() {
        // 'IndexOutOfBoundsException if there is no such expression (but for arguments that are -1)'
        refuses("addCall(0, ..)", State.EMPTY, INDEX, x -> x.addCall(0, 0, -1, -1));
        refuses("addCall(-1, ..)", State.EMPTY, INDEX, x -> x.addCall(-1, 0, -1, -1));
        refusesEach("addCall", State.SOME, INDEX, outside(0, 3), (x, e) -> x.addCall(e, 0, -1, -1));
        refusesEach("addCall with first", State.SOME, INDEX, outside(-1, 3), (x, first) -> x.addCall(0, 0, first, -1));
        refusesEach("addCall with second", State.SOME, INDEX, outside(-1, 3), (x, second) -> x.addCall(0, 0, 1, second));
        // 'IllegalArgumentException if name is not 0 to 9'
        refusesEach("addCall named", State.SOME, ARGUMENT, outside(0, 9), (x, name) -> x.addCall(0, name, -1, -1));
        // 'IllegalStateException if there are 50 expressions'
        for (State state : new State[] {State.FULL_OF_EXPRESSIONS, State.FULL}) {
            refuses("addCall(0, 0, -1, -1)", state, STATE, x -> x.addCall(0, 0, -1, -1));
            refuses("addCall(0, 9, 0, 0)", state, STATE, x -> x.addCall(0, 9, 0, 0));
            // 'the one that is named first is thrown'
            refusesEach("addCall", state, INDEX, outside(0, 49), (x, e) -> x.addCall(e, 0, -1, -1));
            refusesEach("addCall with first", state, INDEX, outside(-1, 49), (x, first) -> x.addCall(0, 0, first, -1));
            refusesEach("addCall with second", state, INDEX, outside(-1, 49), (x, second) -> x.addCall(0, 0, 0, second));
            refuses("addCall(0, 10, ..)", state, ARGUMENT, x -> x.addCall(0, 10, -1, -1));
            refuses("addCall(0, 0, -1, 0)", state, ARGUMENT, x -> x.addCall(0, 0, -1, 0));
            refuses("addCall(0, 0, 2, -1)", state, ARGUMENT, x -> x.addCall(0, 0, 2, -1));
            refuses("addCall(0, 0, 0, 2)", state, ARGUMENT, x -> x.addCall(0, 0, 0, 2));
        }
    }

    private static void promise13OfArguments() {
        // 'second is not -1 while first is'
        int[] own = {0, 1, 3};
        refusesEach("addCall without first, second", State.SOME, ARGUMENT, own, (x, second) -> x.addCall(0, 0, -1, second));
        refuses("addCall without first, second of elsewhere", State.SOME, ARGUMENT, x -> x.addCall(0, 0, -1, 2));
        // 'an argument belongs to another method than e'
        refusesEach("addCall with first of elsewhere", State.SOME, ARGUMENT, own, (x, first) -> x.addCall(2, 0, first, -1));
        refusesEach("addCall with both of elsewhere", State.SOME, ARGUMENT, own, (x, e) -> x.addCall(2, 0, e, e));
        refusesEach("addCall with second of elsewhere", State.SOME, ARGUMENT, own, (x, second) -> x.addCall(2, 0, 2, second));
        refuses("addCall with only first of elsewhere", State.SOME, ARGUMENT, x -> x.addCall(0, 0, 2, 1));
        // 'the one that is named first is thrown'
        refuses("addCall(4, 10, -1, -1)", State.SOME, INDEX, x -> x.addCall(4, 10, -1, -1));
        refuses("addCall(0, 10, 4, -1)", State.SOME, INDEX, x -> x.addCall(0, 10, 4, -1));
        refuses("addCall(0, 10, 1, -2)", State.SOME, INDEX, x -> x.addCall(0, 10, 1, -2));
        refuses("addCall(0, 0, -1, 4)", State.SOME, INDEX, x -> x.addCall(0, 0, -1, 4));
        refuses("addCall(0, 0, -1, -2)", State.SOME, INDEX, x -> x.addCall(0, 0, -1, -2));
        refuses("addCall(0, 0, 2, 4)", State.SOME, INDEX, x -> x.addCall(0, 0, 2, 4));
        refuses("addCall(0, 0, 4, 2)", State.SOME, INDEX, x -> x.addCall(0, 0, 4, 2));
        refuses("addCall(4, 0, -1, 0)", State.SOME, INDEX, x -> x.addCall(4, 0, -1, 0));
        refuses("addCall(4, 0, 2, 0)", State.SOME, INDEX, x -> x.addCall(4, 0, 2, 0));
        refuses("addCall(0, 10, 2, -1)", State.SOME, ARGUMENT, x -> x.addCall(0, 10, 2, -1));
    }

    private static void promise14() {
        // 'IndexOutOfBoundsException if there is no such expression'
        refuses("addResult(0, ..)", State.EMPTY, INDEX, x -> x.addResult(0, 0, 0));
        refusesEach("addResult", State.SOME, INDEX, outside(0, 3), (x, e) -> x.addResult(e, 0, 0));
        refusesEach("addResult", State.FULL_OF_EXPRESSIONS, INDEX, outside(0, 49), (x, e) -> x.addResult(e, 0, 0));
        refusesConditions("addResult", State.SOME, (x, on, off) -> x.addResult(3, on, off));
        // 'IllegalStateException if there are 16 results'
        for (State state : new State[] {State.FULL_OF_RESULTS, State.FULL}) {
            refuses("addResult", state, STATE, x -> x.addResult(0, 0, 0));
            // 'the one that is named first is thrown'
            refuses("addResult(50, ..)", state, INDEX, x -> x.addResult(50, 0, 0));
            refuses("addResult(-1, ..)", state, INDEX, x -> x.addResult(-1, 0, 0));
            refuses("addResult(50, 1, 1)", state, INDEX, x -> x.addResult(50, 1, 1));
            refusesConditions("addResult", state, (x, on, off) -> x.addResult(0, on, off));
        }
        refuses("addResult(4, 1, 1)", State.SOME, INDEX, x -> x.addResult(4, 1, 1));
        refuses("addResult(-1, 16, 0)", State.SOME, INDEX, x -> x.addResult(-1, 16, 0));
        refuses("addResult(0, 1, 1)", State.EMPTY, INDEX, x -> x.addResult(0, 1, 1));
    }

    private static void promise15() {
        int[] some = {3, 2, 4, 2};
        int[] full = {8, 12, 24, 16};
        // 'IndexOutOfBoundsException if sort is not 0 to 3'
        refusesEach("setCondition of sort", State.SOME, INDEX, outside(0, 3), (x, sort) -> x.setCondition(sort, 0, 0, 0));
        refusesEach("setCondition of sort", State.FULL, INDEX, outside(0, 3), (x, sort) -> x.setCondition(sort, 0, 0, 0));
        for (int i = 0; i < 4; i++) {
            int sort = i;
            String call = "setCondition(" + sort + ", ..) of";
            // 'or there is no such element'
            refuses(call + " 0", State.EMPTY, INDEX, x -> x.setCondition(sort, 0, 0, 0));
            refuses(call + " -1", State.EMPTY, INDEX, x -> x.setCondition(sort, -1, 0, 0));
            refusesEach(call, State.SOME, INDEX, outside(0, some[sort] - 1), (x, n) -> x.setCondition(sort, n, 4, 0));
            refusesEach(call, State.FULL, INDEX, outside(0, full[sort] - 1), (x, n) -> x.setCondition(sort, n, 4, 0));
            refusesConditions(call + " 0", State.SOME, (x, on, off) -> x.setCondition(sort, 0, on, off));
            refusesConditions(call + " the last", State.FULL, (x, on, off) -> x.setCondition(sort, full[sort] - 1, on, off));
            // 'the one that is named first is thrown'
            refuses(call + " one too many, wrong", State.SOME, INDEX, x -> x.setCondition(sort, some[sort], 1, 1));
            refuses(call + " -1, wrong", State.SOME, INDEX, x -> x.setCondition(sort, -1, 16, 0));
            refuses(call + " 0, wrong", State.EMPTY, INDEX, x -> x.setCondition(sort, 0, 0, -1));
        }
        refuses("setCondition(4, 0, 1, 1)", State.SOME, INDEX, x -> x.setCondition(4, 0, 1, 1));
        refuses("setCondition(-1, 0, 16, 0)", State.SOME, INDEX, x -> x.setCondition(-1, 0, 16, 0));
    }

    private static void promise16() {
        // 'IllegalStateException if there is none'
        refuses("dropResult", State.EMPTY, STATE, x -> x.dropResult());
        ProductLineChecker x = State.FULL_OF_RESULTS.make();
        for (int left = 15; left >= 0; left--) {
            due.is("dropResult of " + (left + 1), x.dropResult(), left);
        }
        due.throwing("dropResult when all are dropped", IllegalStateException.class, x, () -> x.dropResult());
        due.is("addResult when all are dropped", x.addResult(0, 0, 0), 0);
    }

    private static void promise17() {
        // 'IndexOutOfBoundsException if sort is not 0 to 4'
        for (State state : new State[] {State.EMPTY, State.SOME, State.FULL}) {
            refusesEach("count", state, INDEX, outside(0, 4), (x, sort) -> x.count(sort));
        }
    }

    private static void promise18() {
        int[] some = {3, 2, 4, 2};
        int[] full = {8, 12, 24, 16};
        // 'IndexOutOfBoundsException if sort is not 0 to 3' - 4 is a sort of count alone
        refusesEach("presence of sort", State.SOME, INDEX, outside(0, 3), (x, sort) -> x.presence(sort, 0));
        refusesEach("presence of sort", State.FULL, INDEX, outside(0, 3), (x, sort) -> x.presence(sort, 0));
        // 'or there is no such element'
        for (int i = 0; i < 4; i++) {
            int sort = i;
            String call = "presence(" + sort + ", ..) of";
            refuses(call + " 0", State.EMPTY, INDEX, x -> x.presence(sort, 0));
            refuses(call + " -1", State.EMPTY, INDEX, x -> x.presence(sort, -1));
            refusesEach(call, State.SOME, INDEX, outside(0, some[sort] - 1), (x, n) -> x.presence(sort, n));
            refusesEach(call, State.FULL, INDEX, outside(0, full[sort] - 1), (x, n) -> x.presence(sort, n));
        }
    }

    private static void promise19() {
        // 'IndexOutOfBoundsException if there is no such class'
        refuses("parent(0, 0)", State.EMPTY, INDEX, x -> x.parent(0, 0));
        refusesEach("parent of", State.SOME, INDEX, outside(0, 2), (x, of) -> x.parent(of, 0));
        refusesEach("parent of", State.FULL, INDEX, outside(0, 7), (x, of) -> x.parent(of, 0));
        // 'IllegalArgumentException if configuration is no product' - with feature 3, or no configuration
        refusesEach("parent in", State.SOME, ARGUMENT, outside(0, 15), (x, c) -> x.parent(0, c));
        refusesEach("parent in", State.SOME, ARGUMENT, new int[] {8, 9, 15}, (x, c) -> x.parent(0, c));
        refusesEach("parent in", State.FULL, ARGUMENT, new int[] {2, 3, 4, 8, 14, 15}, (x, c) -> x.parent(0, c));
        // 'the one that is named first is thrown'
        refuses("parent(3, 8)", State.SOME, INDEX, x -> x.parent(3, 8));
        refuses("parent(-1, 16)", State.SOME, INDEX, x -> x.parent(-1, 16));
        refuses("parent(0, -1)", State.EMPTY, INDEX, x -> x.parent(0, -1));
    }

    private static void promise20() {
        // 'IndexOutOfBoundsException if there is no such class'
        refuses("isBelow(0, 0, 0)", State.EMPTY, INDEX, x -> x.isBelow(0, 0, 0));
        refusesEach("isBelow of a", State.SOME, INDEX, outside(0, 2), (x, a) -> x.isBelow(a, 0, 0));
        refusesEach("isBelow of b", State.SOME, INDEX, outside(0, 2), (x, b) -> x.isBelow(0, b, 0));
        refusesEach("isBelow of a", State.FULL, INDEX, outside(0, 7), (x, a) -> x.isBelow(a, 0, 0));
        refusesEach("isBelow of b", State.FULL, INDEX, outside(0, 7), (x, b) -> x.isBelow(0, b, 0));
        // 'IllegalArgumentException if configuration is no product'
        refusesEach("isBelow in", State.SOME, ARGUMENT, outside(0, 15), (x, c) -> x.isBelow(2, 0, c));
        refusesEach("isBelow in", State.SOME, ARGUMENT, new int[] {8, 9, 15}, (x, c) -> x.isBelow(2, 0, c));
        // 'the one that is named first is thrown'
        refuses("isBelow(3, 0, 8)", State.SOME, INDEX, x -> x.isBelow(3, 0, 8));
        refuses("isBelow(0, 3, -1)", State.SOME, INDEX, x -> x.isBelow(0, 3, -1));
        refuses("isBelow(-1, -1, 16)", State.EMPTY, INDEX, x -> x.isBelow(-1, -1, 16));
    }

    private static void promise21() {
        for (boolean isMethod : new boolean[] {true, false}) {
            // 'IndexOutOfBoundsException if there is no such class'
            refuses("find(0, ..)", State.EMPTY, INDEX, x -> x.find(0, 0, isMethod, 0));
            refusesEach("find in class", State.SOME, INDEX, outside(0, 2), (x, of) -> x.find(of, 0, isMethod, 0));
            refusesEach("find in class", State.FULL, INDEX, outside(0, 7), (x, of) -> x.find(of, 0, isMethod, 0));
            // 'IllegalArgumentException if name is not 0 to 9, or configuration is no product'
            refusesEach("find of name", State.SOME, ARGUMENT, outside(0, 9), (x, name) -> x.find(0, name, isMethod, 0));
            refusesEach("find in", State.SOME, ARGUMENT, outside(0, 15), (x, c) -> x.find(0, 0, isMethod, c));
            refusesEach("find in", State.SOME, ARGUMENT, new int[] {8, 9, 15}, (x, c) -> x.find(0, 0, isMethod, c));
            // 'the one that is named first is thrown'
            refuses("find(3, 10, ..)", State.SOME, INDEX, x -> x.find(3, 10, isMethod, 0));
            refuses("find(3, 0, .., 8)", State.SOME, INDEX, x -> x.find(3, 0, isMethod, 8));
            refuses("find(-1, -1, .., -1)", State.SOME, INDEX, x -> x.find(-1, -1, isMethod, -1));
            refuses("find(0, 10, .., 8)", State.SOME, ARGUMENT, x -> x.find(0, 10, isMethod, 8));
        }
    }

    private static void promise22() {
        // 'IndexOutOfBoundsException if there is no such expression'
        refuses("typeOf(0, 0)", State.EMPTY, INDEX, x -> x.typeOf(0, 0));
        refusesEach("typeOf", State.SOME, INDEX, outside(0, 3), (x, e) -> x.typeOf(e, 0));
        refusesEach("typeOf", State.FULL, INDEX, outside(0, 49), (x, e) -> x.typeOf(e, 0));
        // 'IllegalArgumentException if configuration is no product'
        refusesEach("typeOf in", State.SOME, ARGUMENT, outside(0, 15), (x, c) -> x.typeOf(0, c));
        refusesEach("typeOf in", State.SOME, ARGUMENT, new int[] {8, 9, 15}, (x, c) -> x.typeOf(0, c));
        // 'the one that is named first is thrown'
        refuses("typeOf(4, 8)", State.SOME, INDEX, x -> x.typeOf(4, 8));
        refuses("typeOf(-1, -1)", State.SOME, INDEX, x -> x.typeOf(-1, -1));
        refuses("typeOf(0, 16)", State.EMPTY, INDEX, x -> x.typeOf(0, 16));
    }

    private static void promise24() {
        // 'IndexOutOfBoundsException if there is no such error'
        refuses("error(0, 0)", State.EMPTY, INDEX, x -> x.error(0, 0));
        refuses("error(-1, 0)", State.EMPTY, INDEX, x -> x.error(-1, 0));
        for (State state : new State[] {State.SOME, State.FULL}) {
            int errors = state.make().errorCount();
            for (int what = 0; what <= 2; what++) {
                int told = what;
                refusesEach("error", state, INDEX, outside(0, errors - 1), (x, error) -> x.error(error, told));
            }
            // 'or what is not 0 to 2'
            refusesEach("error(0, ..)", state, INDEX, outside(0, 2), (x, what) -> x.error(0, what));
            refusesEach("last error", state, INDEX, outside(0, 2), (x, what) -> x.error(errors - 1, what));
            refuses("error(-1, 3)", state, INDEX, x -> x.error(-1, 3));
            refuses("error(errors, -1)", state, INDEX, x -> x.error(errors, -1));
        }
    }

    private static void promise26() {
        // 'IllegalArgumentException if configuration is no product'
        refusesEach("errorsIn", State.EMPTY, ARGUMENT, outside(0, 15), (x, c) -> x.errorsIn(c));
        refusesEach("errorsIn", State.SOME, ARGUMENT, outside(0, 15), (x, c) -> x.errorsIn(c));
        refusesEach("errorsIn", State.SOME, ARGUMENT, new int[] {8, 9, 12, 15}, (x, c) -> x.errorsIn(c));
        refusesEach("errorsIn", State.FULL, ARGUMENT, new int[] {2, 3, 4, 8, 14, 15}, (x, c) -> x.errorsIn(c));
    }
}

/** For each promise of the document: ordinary inputs, its edges, and wrong inputs. */
public final class PromiseTest {
    private static final Class<IndexOutOfBoundsException> INDEX = IndexOutOfBoundsException.class;
    private static final Class<IllegalArgumentException> ARGUMENT = IllegalArgumentException.class;
    private static final Class<IllegalStateException> STATE = IllegalStateException.class;
    private static final int ALL = 65535;
    private static final int WITH_0 = 0xAAAA;
    private static final int WITH_1 = 0xCCCC;
    private static final int WITH_2 = 0xF0F0;
    private static final int WITH_3 = 0xFF00;

    private static final Due due = new Due();

    public static void main(String[] args) {
        promise1();
        promise2();
        promise3();
        promise4();
        promise5();
        promise6();
        promise7();
        promise8();
        promise9();
        promise10();
        promise11();
        promise12();
        promise13();
        promise14();
        promise15();
        promise16();
        promise17();
        promise18();
        promise19();
        promise20();
        promise21();
        promise22();
        promise22OfUses();
        promise22OfArguments();
        promise23();
        promise24Links();
        promise24Members();
        promise24Overriding();
        promise24Expressions();
        promise24();
        promise25();
        promise26();
        promise27();
        promise28();
        promise29();
        due.end();
    }

    /** Classes 0, 1 and 2, there in all products, without links. */
    private static ProductLineChecker threeClasses() {
        ProductLineChecker x = new ProductLineChecker();
        x.addClass(0, 0);
        x.addClass(0, 0);
        x.addClass(0, 0);
        return x;
    }

    /** Three classes, with method 0 (class 0, name 0, two parameters INT and 1) and field 1 (class 0, name 0). */
    private static ProductLineChecker withMethod() {
        ProductLineChecker x = threeClasses();
        x.addMethod(0, 0, 8, 8, 1, 0, 0);
        x.addField(0, 0, 1, 0, 0);
        return x;
    }

    private static ProductLineChecker fullOfExpressions() {
        ProductLineChecker x = withMethod();
        for (int e = 0; e < 50; e++) {
            due.is("addPlain as number " + e, x.addPlain(0, false), e);
        }
        return x;
    }

    private static void isError(String what, ProductLineChecker x, int error, int kind, int element, int set) {
        if (error >= x.errorCount()) {
            due.fail(what + ": there is no error " + error);
            return;
        }
        due.is(what + ": kind", x.error(error, 0), kind);
        due.is(what + ": element", x.error(error, 1), element);
        due.is(what + ": set", x.error(error, 2), set);
    }

    private static void areErrors(String what, ProductLineChecker x, int[][] wanted) {
        due.is(what + ": errorCount", x.errorCount(), wanted.length);
        for (int i = 0; i < wanted.length; i++) {
            isError(what + ", error " + i, x, i, wanted[i][0], wanted[i][1], wanted[i][2]);
        }
    }

    private static void promise1() {
        ProductLineChecker x = new ProductLineChecker();
        due.is("products of a new object", x.products(), ALL);
        for (int sort = 0; sort <= 4; sort++) {
            due.is("count " + sort + " of a new object", x.count(sort), 0);
        }
        due.is("errorCount of a new object", x.errorCount(), 0);
        due.is("right of a new object", x.right(), ALL);
        due.is("culprit of a new object", x.culprit(), -1);
        due.is("share of a new object", x.share(), 1.0);
        due.throwing("dropRule on a new object", STATE, x, () -> x.dropRule());
        due.throwing("dropResult on a new object", STATE, x, () -> x.dropResult());
        x.addClass(0, 0);
        due.is("count 0 of another new object", new ProductLineChecker().count(0), 0);
    }

    private static void promise2() {
        ProductLineChecker x = new ProductLineChecker();
        due.throwing("addRule(-1, 0, 0)", ARGUMENT, x, () -> x.addRule(-1, 0, 0));
        due.throwing("addRule(2, 0, 0)", ARGUMENT, x, () -> x.addRule(2, 0, 0));
        due.throwing("addRule(0, -1, 0)", ARGUMENT, x, () -> x.addRule(0, -1, 0));
        due.throwing("addRule(0, 4, 0)", ARGUMENT, x, () -> x.addRule(0, 4, 0));
        due.throwing("addRule(1, 0, -1)", ARGUMENT, x, () -> x.addRule(1, 0, -1));
        due.throwing("addRule(1, 0, 4)", ARGUMENT, x, () -> x.addRule(1, 0, 4));
        due.is("first addRule", x.addRule(0, 3, 0), 1);
        due.is("addRule of the same", x.addRule(0, 3, 0), 2);
        for (int rules = 3; rules <= 8; rules++) {
            due.is("addRule up to " + rules, x.addRule(1, 0, 3), rules);
        }
        due.throwing("addRule beyond 8", STATE, x, () -> x.addRule(1, 1, 1));
        due.throwing("wrong addRule beyond 8", ARGUMENT, x, () -> x.addRule(1, 1, 4));
        due.is("dropRule of 8", x.dropRule(), 7);
        due.is("addRule when there is room again", x.addRule(0, 3, 3), 8);
    }

    private static void promise3() {
        ProductLineChecker x = new ProductLineChecker();
        due.throwing("dropRule without rules", STATE, x, () -> x.dropRule());
        x.addRule(1, 0, 0);
        x.addRule(1, 1, 1);
        due.is("dropRule of 2", x.dropRule(), 1);
        due.is("products after dropRule", x.products(), ALL & ~WITH_0);
        due.is("dropRule of 1", x.dropRule(), 0);
        due.is("products after all dropRule", x.products(), ALL);
        due.throwing("dropRule of 0", STATE, x, () -> x.dropRule());
        due.is("addRule after dropRule", x.addRule(0, 0, 1), 1);
        due.is("products after addRule", x.products(), ALL & ~(WITH_0 & ~WITH_1));
    }

    private static void promise4() {
        ProductLineChecker x = new ProductLineChecker();
        x.addRule(0, 2, 2);
        due.is("products with REQUIRE 2 2", x.products(), ALL);
        x.addRule(0, 2, 0);
        due.is("products with REQUIRE 2 0", x.products(), ALL & ~(WITH_2 & ~WITH_0));
        x.addRule(1, 1, 3);
        due.is("products with EXCLUDE 1 3", x.products(), ALL & ~(WITH_2 & ~WITH_0) & ~(WITH_1 & WITH_3));
        x.addRule(1, 3, 3);
        due.is("products with EXCLUDE 3 3", x.products(), ALL & ~(WITH_2 & ~WITH_0) & ~WITH_3);
        ProductLineChecker none = new ProductLineChecker();
        for (int f = 0; f < 4; f++) {
            none.addRule(1, f, f);
        }
        due.is("products without features", none.products(), 1);
    }

    /** A call that takes a condition; made with other arguments that are right. */
    private interface Conditioned {
        void call(int on, int off);
    }

    private static void refusesConditions(String call, ProductLineChecker x, Conditioned made) {
        int[][] wrong = {{-1, 0}, {16, 0}, {0, -1}, {0, 16}, {1, 1}, {6, 12}, {15, 15},
            {Integer.MAX_VALUE, 0}, {0, Integer.MIN_VALUE}};
        for (int[] pair : wrong) {
            due.throwing(call + " with on " + pair[0] + " off " + pair[1], ARGUMENT, x,
                    () -> made.call(pair[0], pair[1]));
        }
    }

    private static void promise5() {
        ProductLineChecker x = new ProductLineChecker();
        refusesConditions("addClass", x, (on, off) -> x.addClass(on, off));
        due.is("first addClass", x.addClass(15, 0), 0);
        due.is("second addClass", x.addClass(0, 15), 1);
        due.is("presence of class 15 0", x.presence(0, 0), 1 << 15);
        due.is("presence of class 0 15", x.presence(0, 1), 1);
        for (int number = 2; number < 8; number++) {
            due.is("addClass up to 8", x.addClass(5, 10), number);
        }
        due.throwing("addClass beyond 8", STATE, x, () -> x.addClass(0, 0));
        due.throwing("wrong addClass beyond 8", ARGUMENT, x, () -> x.addClass(1, 1));
    }

    private static void promise6() {
        ProductLineChecker x = threeClasses();
        due.throwing("addLink(-1, ..)", INDEX, x, () -> x.addLink(-1, 0, 0, 0));
        due.throwing("addLink(3, ..)", INDEX, x, () -> x.addLink(3, 0, 0, 0));
        due.throwing("addLink(0, -1, ..)", INDEX, x, () -> x.addLink(0, -1, 0, 0));
        due.throwing("addLink(0, 3, ..)", INDEX, x, () -> x.addLink(0, 3, 0, 0));
        due.throwing("addLink of no class and no condition", INDEX, x, () -> x.addLink(0, 3, 1, 1));
        refusesConditions("addLink", x, (on, off) -> x.addLink(0, 1, on, off));
        due.is("first addLink", x.addLink(0, 1, 1, 0), 0);
        due.is("second addLink", x.addLink(1, 1, 0, 0), 1);
        due.is("parent of class 0", x.parent(0, 1), 1);
        due.is("parent of class 1", x.parent(1, 1), 1);
        for (int number = 2; number < 12; number++) {
            due.is("addLink up to 12", x.addLink(0, 2, 0, 0), number);
        }
        due.throwing("addLink beyond 12", STATE, x, () -> x.addLink(0, 2, 0, 0));
        due.throwing("addLink without class beyond 12", INDEX, x, () -> x.addLink(0, 8, 0, 0));
        due.throwing("addLink without condition beyond 12", ARGUMENT, x, () -> x.addLink(0, 2, 2, 2));
    }

    private static void promise7() {
        ProductLineChecker x = threeClasses();
        due.throwing("addField(-1, ..)", INDEX, x, () -> x.addField(-1, 0, 8, 0, 0));
        due.throwing("addField(3, ..)", INDEX, x, () -> x.addField(3, 0, 8, 0, 0));
        due.throwing("addField of no class and no name", INDEX, x, () -> x.addField(3, 10, 9, 1, 1));
        due.throwing("addField of name -1", ARGUMENT, x, () -> x.addField(0, -1, 8, 0, 0));
        due.throwing("addField of name 10", ARGUMENT, x, () -> x.addField(0, 10, 8, 0, 0));
        due.throwing("addField of type -1", ARGUMENT, x, () -> x.addField(0, 0, -1, 0, 0));
        due.throwing("addField of type 3", ARGUMENT, x, () -> x.addField(0, 0, 3, 0, 0));
        due.throwing("addField of type 9", ARGUMENT, x, () -> x.addField(0, 0, 9, 0, 0));
        refusesConditions("addField", x, (on, off) -> x.addField(0, 0, 8, on, off));
        due.is("first addField", x.addField(2, 9, 2, 2, 4), 0);
        due.is("presence of the field", x.presence(2, 0), WITH_1 & ~WITH_2);
        due.is("find of the field", x.find(2, 9, false, 2), 0);
        due.is("find of the field as a method", x.find(2, 9, true, 2), -1);
        due.is("addMethod after addField", x.addMethod(0, 0, 8, -1, -1, 0, 0), 1);
        for (int number = 2; number < 24; number++) {
            due.is("addField up to 24", x.addField(0, 0, 8, 0, 0), number);
        }
        due.throwing("addField beyond 24", STATE, x, () -> x.addField(0, 0, 8, 0, 0));
        due.throwing("addField without class beyond 24", INDEX, x, () -> x.addField(7, 0, 8, 0, 0));
        due.throwing("addField without type beyond 24", ARGUMENT, x, () -> x.addField(0, 0, 7, 0, 0));
        due.throwing("addMethod beyond 24", STATE, x, () -> x.addMethod(0, 0, 8, -1, -1, 0, 0));
    }

    private static void promise8() {
        ProductLineChecker x = threeClasses();
        due.throwing("addMethod(-1, ..)", INDEX, x, () -> x.addMethod(-1, 0, 8, -1, -1, 0, 0));
        due.throwing("addMethod(3, ..)", INDEX, x, () -> x.addMethod(3, 0, 8, -1, -1, 0, 0));
        due.throwing("addMethod of no class and no name", INDEX, x, () -> x.addMethod(3, 10, 9, -2, 9, 1, 1));
        due.throwing("addMethod of name -1", ARGUMENT, x, () -> x.addMethod(0, -1, 8, -1, -1, 0, 0));
        due.throwing("addMethod of name 10", ARGUMENT, x, () -> x.addMethod(0, 10, 8, -1, -1, 0, 0));
        int[] noTypes = {-2, 3, 7, 9};
        for (int none : noTypes) {
            due.throwing("addMethod of type " + none, ARGUMENT, x, () -> x.addMethod(0, 0, none, -1, -1, 0, 0));
            due.throwing("addMethod of first " + none, ARGUMENT, x, () -> x.addMethod(0, 0, 8, none, -1, 0, 0));
            due.throwing("addMethod of second " + none, ARGUMENT, x, () -> x.addMethod(0, 0, 8, 8, none, 0, 0));
        }
        due.throwing("addMethod of type -1", ARGUMENT, x, () -> x.addMethod(0, 0, -1, -1, -1, 0, 0));
        due.throwing("addMethod of second without first", ARGUMENT, x, () -> x.addMethod(0, 0, 8, -1, 8, 0, 0));
        refusesConditions("addMethod", x, (on, off) -> x.addMethod(0, 0, 8, -1, -1, on, off));
        due.is("first addMethod", x.addMethod(1, 9, 2, 8, 0, 8, 0), 0);
        due.is("presence of the method", x.presence(2, 0), WITH_3);
        due.is("find of the method", x.find(1, 9, true, 8), 0);
        due.is("find of the method as a field", x.find(1, 9, false, 8), -1);
        due.is("ARGUMENT 0", x.addArgument(0, 0), 0);
        due.is("ARGUMENT 1", x.addArgument(0, 1), 1);
        due.is("type of ARGUMENT 0", x.typeOf(0, 8), 8);
        due.is("type of ARGUMENT 1", x.typeOf(1, 8), 0);
        due.is("addField after addMethod", x.addField(0, 0, 8, 0, 0), 1);
        for (int number = 2; number < 24; number++) {
            due.is("addMethod up to 24", x.addMethod(0, 0, 8, -1, -1, 0, 0), number);
        }
        due.throwing("addMethod beyond 24", STATE, x, () -> x.addMethod(0, 0, 8, -1, -1, 0, 0));
        due.throwing("addMethod without class beyond 24", INDEX, x, () -> x.addMethod(3, 0, 8, -1, -1, 0, 0));
        due.throwing("addMethod without type beyond 24", ARGUMENT, x, () -> x.addMethod(0, 0, 9, -1, -1, 0, 0));
    }

    private static void promise9() {
        ProductLineChecker x = withMethod();
        due.throwing("addNew(-1, 0)", INDEX, x, () -> x.addNew(-1, 0));
        due.throwing("addNew(2, 0)", INDEX, x, () -> x.addNew(2, 0));
        due.throwing("addNew of a field", INDEX, x, () -> x.addNew(1, 0));
        due.throwing("addNew(0, -1)", INDEX, x, () -> x.addNew(0, -1));
        due.throwing("addNew(0, 3)", INDEX, x, () -> x.addNew(0, 3));
        due.throwing("addNew(0, 8)", INDEX, x, () -> x.addNew(0, 8));
        due.is("first addNew", x.addNew(0, 2), 0);
        due.is("second addNew", x.addNew(0, 1), 1);
        due.is("type of first addNew", x.typeOf(0, 0), 2);
        due.is("type of second addNew", x.typeOf(1, 0), 1);
        ProductLineChecker full = fullOfExpressions();
        due.throwing("addNew beyond 50", STATE, full, () -> full.addNew(0, 0));
        due.throwing("addNew without class beyond 50", INDEX, full, () -> full.addNew(0, 3));
    }

    private static void promise10() {
        ProductLineChecker x = withMethod();
        due.throwing("addPlain(-1, ..)", INDEX, x, () -> x.addPlain(-1, true));
        due.throwing("addPlain(2, ..)", INDEX, x, () -> x.addPlain(2, false));
        due.throwing("addPlain of a field", INDEX, x, () -> x.addPlain(1, true));
        x.addMethod(2, 1, 8, -1, -1, 0, 0);
        due.is("addPlain of SELF", x.addPlain(2, true), 0);
        due.is("addPlain of NUMBER", x.addPlain(2, false), 1);
        due.is("type of SELF", x.typeOf(0, 3), 2);
        due.is("type of NUMBER", x.typeOf(1, 3), 8);
        ProductLineChecker full = fullOfExpressions();
        due.throwing("addPlain beyond 50", STATE, full, () -> full.addPlain(0, true));
        due.throwing("addPlain of a field beyond 50", INDEX, full, () -> full.addPlain(1, true));
    }

    private static void promise11() {
        ProductLineChecker x = withMethod();
        x.addMethod(2, 1, 8, 2, -1, 0, 0);
        x.addMethod(2, 2, 8, -1, -1, 0, 0);
        due.throwing("addArgument(-1, 0)", INDEX, x, () -> x.addArgument(-1, 0));
        due.throwing("addArgument(4, 0)", INDEX, x, () -> x.addArgument(4, 0));
        due.throwing("addArgument of a field", INDEX, x, () -> x.addArgument(1, 0));
        due.throwing("addArgument -1", INDEX, x, () -> x.addArgument(0, -1));
        due.throwing("addArgument 2 of 2", INDEX, x, () -> x.addArgument(0, 2));
        due.throwing("addArgument 1 of 1", INDEX, x, () -> x.addArgument(2, 1));
        due.throwing("addArgument 0 of 0", INDEX, x, () -> x.addArgument(3, 0));
        due.is("first addArgument", x.addArgument(0, 1), 0);
        due.is("second addArgument", x.addArgument(2, 0), 1);
        due.is("type of first addArgument", x.typeOf(0, 0), 1);
        due.is("type of second addArgument", x.typeOf(1, 0), 2);
        ProductLineChecker full = fullOfExpressions();
        due.throwing("addArgument beyond 50", STATE, full, () -> full.addArgument(0, 0));
        due.throwing("addArgument 2 beyond 50", INDEX, full, () -> full.addArgument(0, 2));
    }

    private static void promise12() {
        ProductLineChecker x = withMethod();
        due.throwing("addFieldOf without expressions", INDEX, x, () -> x.addFieldOf(0, 0));
        x.addPlain(0, true);
        due.throwing("addFieldOf(-1, 0)", INDEX, x, () -> x.addFieldOf(-1, 0));
        due.throwing("addFieldOf(1, 0)", INDEX, x, () -> x.addFieldOf(1, 0));
        due.throwing("addFieldOf(1, 10)", INDEX, x, () -> x.addFieldOf(1, 10));
        due.throwing("addFieldOf(0, -1)", ARGUMENT, x, () -> x.addFieldOf(0, -1));
        due.throwing("addFieldOf(0, 10)", ARGUMENT, x, () -> x.addFieldOf(0, 10));
        due.is("addFieldOf of a field that there is", x.addFieldOf(0, 0), 1);
        due.is("addFieldOf of no field", x.addFieldOf(0, 9), 2);
        due.is("type of FIELD", x.typeOf(1, 0), 1);
        due.is("type of FIELD without a field", x.typeOf(2, 0), -1);
        due.is("addCall with FIELDs", x.addCall(1, 0, 2, 1), 3);
        ProductLineChecker full = fullOfExpressions();
        due.throwing("addFieldOf beyond 50", STATE, full, () -> full.addFieldOf(49, 0));
        due.throwing("addFieldOf(50, 0) beyond 50", INDEX, full, () -> full.addFieldOf(50, 0));
        due.throwing("addFieldOf(0, 10) beyond 50", ARGUMENT, full, () -> full.addFieldOf(0, 10));
    }

    private static void promise13() {
        ProductLineChecker x = withMethod();
        x.addMethod(1, 1, 8, 8, -1, 0, 0);
        due.throwing("addCall without expressions", INDEX, x, () -> x.addCall(0, 0, -1, -1));
        x.addPlain(0, true);
        x.addPlain(0, false);
        x.addPlain(2, true);
        due.throwing("addCall(-1, ..)", INDEX, x, () -> x.addCall(-1, 0, -1, -1));
        due.throwing("addCall(3, ..)", INDEX, x, () -> x.addCall(3, 0, -1, -1));
        due.throwing("addCall with first -2", INDEX, x, () -> x.addCall(0, 0, -2, -1));
        due.throwing("addCall with first 3", INDEX, x, () -> x.addCall(0, 0, 3, -1));
        due.throwing("addCall with second -2", INDEX, x, () -> x.addCall(0, 0, 1, -2));
        due.throwing("addCall with second 3", INDEX, x, () -> x.addCall(0, 0, 1, 3));
        due.throwing("addCall with second 3 alone", INDEX, x, () -> x.addCall(0, 10, -1, 3));
        due.throwing("addCall of name -1", ARGUMENT, x, () -> x.addCall(0, -1, -1, -1));
        due.throwing("addCall of name 10", ARGUMENT, x, () -> x.addCall(0, 10, -1, -1));
        due.throwing("addCall with second alone", ARGUMENT, x, () -> x.addCall(0, 0, -1, 1));
        due.throwing("addCall with first of elsewhere", ARGUMENT, x, () -> x.addCall(0, 0, 2, 1));
        due.throwing("addCall with second of elsewhere", ARGUMENT, x, () -> x.addCall(0, 0, 1, 2));
        due.throwing("addCall with e of elsewhere", ARGUMENT, x, () -> x.addCall(2, 0, 1, 1));
        due.is("addCall without arguments", x.addCall(0, 0, -1, -1), 3);
        due.is("addCall with one argument", x.addCall(0, 0, 1, -1), 4);
        due.is("addCall with two arguments", x.addCall(0, 9, 1, 1), 5);
        due.is("addCall of itself alone", x.addCall(0, 0, 0, 0), 6);
        due.is("addCall of another method", x.addCall(2, 1, 2, -1), 7);
        due.throwing("addCall belongs to the method of e", ARGUMENT, x, () -> x.addCall(0, 0, 7, -1));
        ProductLineChecker full = fullOfExpressions();
        due.throwing("addCall beyond 50", STATE, full, () -> full.addCall(0, 0, -1, -1));
        due.throwing("addCall(50, ..) beyond 50", INDEX, full, () -> full.addCall(50, 0, -1, -1));
        due.throwing("addCall(0, 10, ..) beyond 50", ARGUMENT, full, () -> full.addCall(0, 10, -1, -1));
    }

    private static void promise14() {
        ProductLineChecker x = withMethod();
        due.throwing("addResult without expressions", INDEX, x, () -> x.addResult(0, 0, 0));
        x.addPlain(0, false);
        due.throwing("addResult(-1, ..)", INDEX, x, () -> x.addResult(-1, 0, 0));
        due.throwing("addResult(1, ..)", INDEX, x, () -> x.addResult(1, 0, 0));
        due.throwing("addResult of no expression and no condition", INDEX, x, () -> x.addResult(1, 1, 1));
        refusesConditions("addResult", x, (on, off) -> x.addResult(0, on, off));
        due.is("first addResult", x.addResult(0, 2, 1), 0);
        due.is("presence of the result", x.presence(3, 0), WITH_1 & ~WITH_0);
        for (int number = 1; number < 16; number++) {
            due.is("addResult up to 16", x.addResult(0, 0, 0), number);
        }
        due.throwing("addResult beyond 16", STATE, x, () -> x.addResult(0, 0, 0));
        due.throwing("addResult(1, ..) beyond 16", INDEX, x, () -> x.addResult(1, 0, 0));
        due.throwing("addResult without condition beyond 16", ARGUMENT, x, () -> x.addResult(0, 4, 4));
    }

    /** withMethod, with a link and a result too. */
    private static ProductLineChecker withEachSort() {
        ProductLineChecker x = withMethod();
        x.addLink(0, 1, 0, 0);
        x.addPlain(0, false);
        x.addResult(0, 0, 0);
        return x;
    }

    private static void promise15() {
        ProductLineChecker x = withEachSort();
        due.throwing("setCondition(-1, ..)", INDEX, x, () -> x.setCondition(-1, 0, 0, 0));
        due.throwing("setCondition(4, ..)", INDEX, x, () -> x.setCondition(4, 0, 0, 0));
        x.setCondition(0, 2, 2, 0);
        due.is("presence of the class that is set", x.presence(0, 2), WITH_1);
        due.is("presence of a class that is not set", x.presence(0, 1), ALL);
        int[] sizes = {3, 1, 2, 1};
        for (int sort = 0; sort < 4; sort++) {
            promise15Of(sort, sizes[sort]);
        }
    }

    private static void promise15Of(int sort, int size) {
        ProductLineChecker x = withEachSort();
        due.throwing("setCondition of -1", INDEX, x, () -> x.setCondition(sort, -1, 0, 0));
        due.throwing("setCondition beyond", INDEX, x, () -> x.setCondition(sort, size, 0, 0));
        due.throwing("setCondition beyond, wrong", INDEX, x, () -> x.setCondition(sort, size, 1, 1));
        refusesConditions("setCondition", x, (on, off) -> x.setCondition(sort, 0, on, off));
        due.is("setCondition to the same", x.setCondition(sort, 0, 0, 0), false);
        due.is("setCondition to another on", x.setCondition(sort, 0, 1, 0), true);
        due.is("presence after setCondition", x.presence(sort, 0), WITH_0);
        due.is("setCondition to the same again", x.setCondition(sort, 0, 1, 0), false);
        due.is("setCondition to another off", x.setCondition(sort, 0, 1, 8), true);
        due.is("presence after another off", x.presence(sort, 0), WITH_0 & ~WITH_3);
        due.is("setCondition to the same off again", x.setCondition(sort, 0, 1, 8), false);
        due.is("setCondition of off back alone", x.setCondition(sort, 0, 1, 0), true);
        due.is("presence after off is back alone", x.presence(sort, 0), WITH_0);
        due.is("setCondition back", x.setCondition(sort, 0, 0, 0), true);
        due.is("presence after setCondition back", x.presence(sort, 0), ALL);
    }

    private static void promise16() {
        ProductLineChecker x = withMethod();
        due.throwing("dropResult without results", STATE, x, () -> x.dropResult());
        x.addPlain(0, false);
        x.addPlain(0, true);
        x.addResult(0, 0, 0);
        x.addResult(1, 1, 0);
        areErrors("with a wrong result", x, new int[][] {{12, 1, WITH_0}});
        due.is("dropResult of 2", x.dropResult(), 1);
        due.is("count after dropResult", x.count(3), 1);
        due.is("errorCount after dropResult", x.errorCount(), 0);
        due.throwing("presence of a dropped result", INDEX, x, () -> x.presence(3, 1));
        due.throwing("setCondition of a dropped result", INDEX, x, () -> x.setCondition(3, 1, 0, 0));
        due.is("addResult after dropResult", x.addResult(1, 2, 0), 1);
        areErrors("with another wrong result", x, new int[][] {{12, 1, WITH_1}});
        due.is("dropResult of 2 again", x.dropResult(), 1);
        due.is("dropResult of 1", x.dropResult(), 0);
        due.throwing("dropResult of 0", STATE, x, () -> x.dropResult());
    }

    private static void promise17() {
        ProductLineChecker x = withMethod();
        x.addLink(0, 1, 0, 0);
        x.addLink(1, 2, 0, 0);
        x.addLink(2, 0, 0, 0);
        x.addLink(2, 0, 0, 0);
        for (int e = 0; e < 6; e++) {
            x.addPlain(0, false);
        }
        x.addResult(0, 0, 0);
        due.is("count of classes", x.count(0), 3);
        due.is("count of links", x.count(1), 4);
        due.is("count of members", x.count(2), 2);
        due.is("count of results", x.count(3), 1);
        due.is("count of expressions", x.count(4), 6);
        due.throwing("count(-1)", INDEX, x, () -> x.count(-1));
        due.throwing("count(5)", INDEX, x, () -> x.count(5));
    }

    private static void promise18() {
        ProductLineChecker x = new ProductLineChecker();
        x.addClass(1, 0);
        x.addClass(0, 2);
        x.addLink(0, 1, 4, 0);
        x.addMethod(0, 0, 8, -1, -1, 0, 8);
        x.addPlain(0, false);
        x.addResult(0, 0, 4);
        due.is("presence of a class", x.presence(0, 0), WITH_0);
        due.is("presence of a link", x.presence(1, 0), WITH_0 & ~WITH_1 & WITH_2);
        due.is("presence of a member", x.presence(2, 0), WITH_0 & ~WITH_3);
        due.is("presence of a result", x.presence(3, 0), WITH_0 & ~WITH_3 & ~WITH_2);
        x.addRule(1, 0, 1);
        due.is("presence in products only", x.presence(0, 0), WITH_0 & ~WITH_1);
        due.throwing("presence(-1, 0)", INDEX, x, () -> x.presence(-1, 0));
        due.throwing("presence(4, 0)", INDEX, x, () -> x.presence(4, 0));
        int[] sizes = {2, 1, 1, 1};
        for (int i = 0; i < 4; i++) {
            int sort = i;
            due.throwing("presence of -1", INDEX, x, () -> x.presence(sort, -1));
            due.throwing("presence beyond", INDEX, x, () -> x.presence(sort, sizes[sort]));
        }
    }

    private static void promise19() {
        ProductLineChecker x = threeClasses();
        x.addLink(0, 1, 1, 0);
        x.addLink(0, 2, 0, 0);
        due.is("parent by the first link", x.parent(0, 1), 1);
        due.is("parent when the first link is not there", x.parent(0, 2), 2);
        due.is("parent of a class without links", x.parent(1, 1), -1);
        x.setCondition(0, 1, 0, 2);
        due.is("parent when the first parent is not there", x.parent(0, 3), 2);
        x.setCondition(0, 0, 0, 4);
        due.is("parent of a class that is not there", x.parent(0, 4), -1);
        x.addRule(1, 3, 3);
        due.throwing("parent(-1, 0)", INDEX, x, () -> x.parent(-1, 0));
        due.throwing("parent(3, 0)", INDEX, x, () -> x.parent(3, 0));
        due.throwing("parent(3, 8)", INDEX, x, () -> x.parent(3, 8));
        due.throwing("parent(0, 8)", ARGUMENT, x, () -> x.parent(0, 8));
        due.throwing("parent(0, -1)", ARGUMENT, x, () -> x.parent(0, -1));
        due.throwing("parent(0, 16)", ARGUMENT, x, () -> x.parent(0, 16));
        due.throwing("parent(0, 32)", ARGUMENT, x, () -> x.parent(0, 32));
    }

    private static void promise20() {
        ProductLineChecker x = new ProductLineChecker();
        for (int of = 0; of < 8; of++) {
            x.addClass(0, 0);
        }
        for (int of = 0; of < 7; of++) {
            x.addLink(of, of + 1, 0, 0);
        }
        due.is("isBelow of a parent", x.isBelow(0, 1, 0), true);
        due.is("isBelow of the last of all", x.isBelow(0, 7, 0), true);
        due.is("isBelow of itself", x.isBelow(0, 0, 0), false);
        due.is("isBelow the other way", x.isBelow(7, 0, 0), false);
        x.addLink(7, 2, 1, 0);
        due.is("isBelow of itself in a ring", x.isBelow(2, 2, 1), true);
        due.is("isBelow of each in a ring", x.isBelow(7, 6, 1), true);
        due.is("isBelow of a ring from outside", x.isBelow(0, 7, 1), true);
        due.is("isBelow of itself outside of a ring", x.isBelow(1, 1, 1), false);
        due.is("isBelow where there is no ring", x.isBelow(7, 6, 0), false);
        x.setCondition(0, 4, 0, 2);
        due.is("isBelow across a class that is not there", x.isBelow(3, 5, 2), false);
        ProductLineChecker ring = new ProductLineChecker();
        for (int of = 0; of < 8; of++) {
            ring.addClass(0, 0);
        }
        for (int of = 0; of < 8; of++) {
            ring.addLink(of, (of + 1) % 8, 0, 0);
        }
        for (int of = 0; of < 8; of++) {
            due.is("isBelow of itself in a ring of all classes", ring.isBelow(of, of, 0), true);
        }
        x.addRule(1, 3, 3);
        due.throwing("isBelow(-1, 0, 0)", INDEX, x, () -> x.isBelow(-1, 0, 0));
        due.throwing("isBelow(8, 0, 0)", INDEX, x, () -> x.isBelow(8, 0, 0));
        due.throwing("isBelow(0, -1, 0)", INDEX, x, () -> x.isBelow(0, -1, 0));
        due.throwing("isBelow(0, 8, 0)", INDEX, x, () -> x.isBelow(0, 8, 0));
        due.throwing("isBelow(0, 8, 8)", INDEX, x, () -> x.isBelow(0, 8, 8));
        due.throwing("isBelow(0, 0, 8)", ARGUMENT, x, () -> x.isBelow(0, 0, 8));
        due.throwing("isBelow(0, 0, -1)", ARGUMENT, x, () -> x.isBelow(0, 0, -1));
        due.throwing("isBelow(0, 0, 16)", ARGUMENT, x, () -> x.isBelow(0, 0, 16));
        ProductLineChecker self = threeClasses();
        self.addLink(1, 1, 0, 0);
        due.is("isBelow of a class that is its own parent", self.isBelow(1, 1, 0), true);
    }

    private static void promise21() {
        ProductLineChecker x = threeClasses();
        x.addLink(0, 1, 0, 0);
        x.addLink(1, 2, 0, 0);
        x.addField(2, 3, 8, 0, 0);
        x.addField(0, 3, 8, 1, 0);
        x.addField(0, 3, 8, 0, 0);
        x.addMethod(1, 3, 8, -1, -1, 0, 0);
        due.is("find of the first of its class", x.find(0, 3, false, 1), 1);
        due.is("find when the first is not there", x.find(0, 3, false, 2), 2);
        due.is("find in the parent's parent", x.find(1, 3, false, 2), 0);
        due.is("find of a method in the parent", x.find(0, 3, true, 2), 3);
        due.is("find of a method where there is a field", x.find(2, 3, true, 2), -1);
        due.is("find of another name", x.find(0, 4, false, 2), -1);
        x.addLink(2, 0, 0, 0);
        due.is("find in a ring", x.find(2, 3, true, 2), 3);
        due.is("find of nothing in a ring", x.find(2, 5, true, 2), -1);
        x.setCondition(0, 0, 0, 4);
        due.is("find in a class that is not there", x.find(0, 3, false, 4), -1);
        x.addRule(1, 3, 3);
        due.throwing("find(-1, ..)", INDEX, x, () -> x.find(-1, 0, true, 0));
        due.throwing("find(3, ..)", INDEX, x, () -> x.find(3, 0, true, 0));
        due.throwing("find(3, 10, ..)", INDEX, x, () -> x.find(3, 10, true, 16));
        due.throwing("find of name -1", ARGUMENT, x, () -> x.find(0, -1, true, 0));
        due.throwing("find of name 10", ARGUMENT, x, () -> x.find(0, 10, false, 0));
        due.throwing("find in no product", ARGUMENT, x, () -> x.find(0, 0, false, 8));
        due.throwing("find in -1", ARGUMENT, x, () -> x.find(0, 0, false, -1));
        due.throwing("find in 16", ARGUMENT, x, () -> x.find(0, 0, false, 16));
        ProductLineChecker far = new ProductLineChecker();
        for (int of = 0; of < 8; of++) {
            far.addClass(0, 0);
        }
        for (int of = 0; of < 7; of++) {
            far.addLink(of, of + 1, 0, 0);
        }
        far.addField(7, 9, 8, 0, 0);
        due.is("find in the last of eight classes", far.find(0, 9, false, 0), 0);
    }

    private static void promise22() {
        ProductLineChecker x = new ProductLineChecker();
        x.addClass(0, 0);
        x.addClass(1, 0);
        x.addMethod(0, 0, 8, 1, 8, 0, 8);
        x.addNew(0, 1);
        x.addPlain(0, false);
        x.addPlain(0, true);
        x.addArgument(0, 0);
        x.addArgument(0, 1);
        due.is("type of NEW", x.typeOf(0, 1), 1);
        due.is("type of NEW of a missing class", x.typeOf(0, 0), -1);
        due.is("type of NUMBER", x.typeOf(1, 0), 8);
        due.is("type of SELF", x.typeOf(2, 0), 0);
        due.is("type of ARGUMENT 0 of a missing class", x.typeOf(3, 0), 1);
        due.is("type of ARGUMENT 1", x.typeOf(4, 0), 8);
        for (int e = 0; e < 5; e++) {
            due.is("type of " + e + " where its method is not there", x.typeOf(e, 8), -2);
        }
        x.addRule(1, 3, 3);
        due.throwing("typeOf(-1, 0)", INDEX, x, () -> x.typeOf(-1, 0));
        due.throwing("typeOf(5, 0)", INDEX, x, () -> x.typeOf(5, 0));
        due.throwing("typeOf(5, 8)", INDEX, x, () -> x.typeOf(5, 8));
        due.throwing("typeOf(0, 8)", ARGUMENT, x, () -> x.typeOf(0, 8));
        due.throwing("typeOf(0, -1)", ARGUMENT, x, () -> x.typeOf(0, -1));
        due.throwing("typeOf(0, 16)", ARGUMENT, x, () -> x.typeOf(0, 16));
    }

    private static void promise22OfUses() {
        ProductLineChecker x = threeClasses();
        x.addLink(0, 1, 1, 0);
        x.addMethod(0, 0, 8, -1, -1, 0, 0);
        x.addField(1, 0, 2, 0, 0);
        x.addMethod(1, 1, 1, 8, -1, 0, 0);
        x.addPlain(0, true);
        x.addPlain(0, false);
        x.addFieldOf(0, 0);
        x.addCall(0, 1, 1, -1);
        x.addFieldOf(1, 0);
        x.addCall(4, 1, 1, -1);
        x.addCall(0, 1, 4, -1);
        x.addFieldOf(3, 0);
        x.addCall(0, 0, -1, -1);
        due.is("type of an inherited FIELD", x.typeOf(2, 1), 2);
        due.is("type of a FIELD that is not inherited", x.typeOf(2, 0), -1);
        due.is("type of an inherited CALL", x.typeOf(3, 1), 1);
        due.is("type of a CALL that is not inherited", x.typeOf(3, 0), -1);
        due.is("type of a FIELD of INT", x.typeOf(4, 1), -1);
        due.is("type of a CALL of e without a type", x.typeOf(5, 1), -1);
        due.is("type of a CALL with an argument without a type", x.typeOf(6, 1), -1);
        due.is("type of a FIELD of a CALL", x.typeOf(7, 1), 2);
        due.is("type of a CALL of the own method", x.typeOf(8, 0), 8);
    }

    /** Method 1 has parameters of classes 1 and 2; class 0 is below 1 if feature 0 is on. */
    private static void promise22OfArguments() {
        ProductLineChecker x = threeClasses();
        x.addLink(0, 1, 1, 0);
        x.addMethod(0, 0, 8, -1, -1, 0, 0);
        x.addMethod(0, 1, 2, 1, 2, 0, 0);
        x.addNew(0, 0);
        x.addNew(0, 1);
        x.addNew(0, 2);
        x.addPlain(0, false);
        int[][] arguments = {{1, 2}, {0, 2}, {2, 2}, {1, 1}, {3, 2}, {1, 3}, {1, -1}, {-1, -1}};
        boolean[] fitsWith0 = {true, true, false, false, false, false, false, false};
        boolean[] fitsWithout0 = {true, false, false, false, false, false, false, false};
        for (int i = 0; i < arguments.length; i++) {
            int e = x.addCall(0, 1, arguments[i][0], arguments[i][1]);
            due.is("type of CALL " + i + " with feature 0", x.typeOf(e, 1), fitsWith0[i] ? 2 : -1);
            due.is("type of CALL " + i + " without it", x.typeOf(e, 0), fitsWithout0[i] ? 2 : -1);
        }
        int e = x.addCall(0, 0, 3, -1);
        due.is("type of CALL with an argument too many", x.typeOf(e, 0), -1);
        x.addMethod(0, 2, 1, 0, -1, 0, 0);
        int zero = x.addCall(0, 2, 0, -1);
        due.is("type of CALL with a parameter of class 0", x.typeOf(zero, 0), 1);
        due.is("type of CALL with another for class 0", x.typeOf(x.addCall(0, 2, 1, -1), 1), -1);
        due.is("type of CALL with another NEW of class 0",
                x.typeOf(x.addCall(0, 2, x.addNew(0, 0), -1), 0), 1);
    }

    private static void promise23() {
        ProductLineChecker x = new ProductLineChecker();
        x.addClass(0, 0);
        x.addClass(1, 0);
        x.addField(0, 0, 1, 0, 0);
        due.is("errorCount with one in some products", x.errorCount(), 1);
        x.addLink(0, 1, 0, 0);
        due.is("errorCount with one more", x.errorCount(), 2);
        x.setCondition(0, 1, 0, 0);
        due.is("errorCount when all is well", x.errorCount(), 0);
        x.setCondition(0, 1, 0, 8);
        due.is("errorCount when all is wrong again", x.errorCount(), 2);
        x.addRule(1, 3, 3);
        due.is("errorCount without the products that are wrong", x.errorCount(), 0);
        x.dropRule();
        due.is("errorCount without the rule", x.errorCount(), 2);
    }

    private static void promise24Links() {
        ProductLineChecker x = threeClasses();
        x.addLink(0, 1, 1, 0);
        x.addLink(0, 2, 2, 0);
        x.addLink(2, 0, 4, 0);
        int ring = WITH_1 & ~WITH_0 & WITH_2;
        areErrors("two links and a ring", x,
                new int[][] {{2, 0, WITH_0 & WITH_1}, {3, 0, ring}, {3, 2, ring}});
        x.setCondition(0, 1, 0, 8);
        areErrors("a missing parent", x, new int[][] {
            {1, 0, WITH_0 & WITH_3},
            {2, 0, WITH_0 & WITH_1 & ~WITH_3},
            {3, 0, ring | WITH_0 & WITH_1 & WITH_2 & WITH_3},
            {3, 2, ring | WITH_0 & WITH_1 & WITH_2 & WITH_3}});
        x.setCondition(0, 0, 0, 15);
        areErrors("a missing class is no error", x, new int[][] {{1, 2, WITH_2}});
        ProductLineChecker self = threeClasses();
        self.addLink(1, 1, 0, 0);
        self.addLink(1, 1, 1, 0);
        self.addLink(0, 1, 0, 0);
        areErrors("its own parent", self, new int[][] {{2, 1, WITH_0}, {3, 1, ALL}});
    }

    private static void promise24Members() {
        ProductLineChecker x = new ProductLineChecker();
        x.addClass(1, 0);
        x.addClass(0, 2);
        x.addClass(0, 0);
        x.addField(0, 0, 8, 2, 0);
        x.addField(2, 0, 8, 0, 0);
        areErrors("a member without class", x, new int[][] {{4, 0, WITH_1 & ~WITH_0}});
        ProductLineChecker types = new ProductLineChecker();
        types.addClass(0, 0);
        types.addClass(1, 0);
        types.addClass(2, 0);
        types.addField(0, 0, 1, 4, 0);
        types.addMethod(0, 0, 1, 8, 0, 0, 0);
        types.addMethod(0, 1, 0, 1, 2, 0, 0);
        types.addMethod(0, 2, 8, 2, -1, 0, 0);
        types.addMethod(0, 3, 8, -1, -1, 0, 0);
        areErrors("members of missing types", types, new int[][] {
            {5, 0, WITH_2 & ~WITH_0}, {5, 1, ALL & ~WITH_0}, {5, 2, ALL & ~(WITH_0 & WITH_1)}, {5, 3, ALL & ~WITH_1}});
        ProductLineChecker twice = threeClasses();
        twice.addField(0, 0, 8, 1, 0);
        twice.addMethod(0, 0, 8, -1, -1, 0, 0);
        twice.addField(0, 1, 8, 0, 0);
        twice.addField(1, 0, 8, 0, 0);
        twice.addField(0, 0, 8, 0, 4);
        twice.addMethod(0, 0, 8, 8, -1, 2, 0);
        twice.addField(0, 0, 8, 0, 0);
        areErrors("members twice", twice, new int[][] {
            {6, 4, WITH_0 & ~WITH_2}, {6, 5, WITH_1}, {6, 6, WITH_0 | ALL & ~WITH_2}});
    }

    private static void promise24Overriding() {
        int[][] changed = {{2, 8, 2}, {1, 8, 2}, {0, 8, 2}, {8, 8, 2}, {1, 2, 2}, {1, 8, 1}, {1, 8, -1}, {1, -1, -1}};
        boolean[] isError = {true, false, false, true, true, true, true, true};
        for (int i = 0; i < changed.length; i++) {
            ProductLineChecker x = threeClasses();
            x.addLink(0, 1, 1, 0);
            x.addLink(1, 2, 0, 0);
            x.addMethod(2, 0, 1, 8, 2, 0, 0);
            x.addMethod(0, 0, changed[i][0], changed[i][1], changed[i][2], 0, 4);
            areErrors("overriding " + i, x, isError[i] ? new int[][] {{7, 1, WITH_0 & ~WITH_2}} : new int[0][]);
        }
        ProductLineChecker more = threeClasses();
        more.addLink(0, 1, 0, 0);
        more.addMethod(1, 0, 8, -1, -1, 0, 0);
        more.addMethod(0, 0, 8, 0, -1, 0, 0);
        more.addMethod(0, 1, 8, 0, -1, 0, 0);
        more.addField(0, 0, 0, 0, 0);
        areErrors("overriding with a parameter more", more, new int[][] {{7, 1, ALL}});
        ProductLineChecker ring = threeClasses();
        ring.addLink(0, 0, 0, 0);
        ring.addMethod(0, 0, 8, -1, -1, 0, 0);
        areErrors("a method that finds itself", ring, new int[][] {{3, 0, ALL}});
        ring.addMethod(0, 0, 0, -1, -1, 1, 0);
        areErrors("a method that finds its like", ring, new int[][] {{3, 0, ALL}, {6, 1, WITH_0}, {7, 1, WITH_0}});
    }

    private static void promise24Expressions() {
        ProductLineChecker x = new ProductLineChecker();
        x.addClass(0, 0);
        x.addClass(1, 0);
        x.addMethod(0, 0, 0, 8, -1, 0, 8);
        x.addNew(0, 1);
        x.addPlain(0, false);
        x.addPlain(0, true);
        x.addFieldOf(1, 0);
        x.addCall(1, 0, 0, -1);
        x.addFieldOf(2, 0);
        x.addCall(2, 1, 1, -1);
        x.addCall(2, 0, 2, -1);
        x.addCall(2, 0, 3, -1);
        x.addResult(1, 0, 4);
        x.addResult(2, 0, 0);
        x.addResult(3, 0, 0);
        x.addResult(0, 0, 0);
        int there = ALL & ~WITH_3;
        areErrors("expressions", x, new int[][] {
            {8, 0, there & ~WITH_0}, {9, 3, there}, {9, 4, there & WITH_0}, {10, 5, there}, {10, 6, there},
            {11, 7, there}, {12, 0, there & ~WITH_2}, {12, 3, there & WITH_0}});
        x.addLink(1, 0, 0, 0);
        x.addField(0, 0, 8, 2, 0);
        isError("FIELD that is found", x, 3, 10, 5, there & ~WITH_1);
        due.is("a result below its method's type is no error", x.errorCount(), 7);
    }

    private static void promise24() {
        ProductLineChecker x = threeClasses();
        due.throwing("error(0, 0) without errors", INDEX, x, () -> x.error(0, 0));
        x.addLink(2, 2, 1, 0);
        x.addLink(1, 1, 2, 0);
        areErrors("two classes", x, new int[][] {{3, 1, WITH_1}, {3, 2, WITH_0}});
        x.setCondition(1, 0, 4, 0);
        due.is("error asked for at once after a change", x.error(1, 2), WITH_2);
        x.setCondition(1, 0, 1, 0);
        due.throwing("error(-1, 0)", INDEX, x, () -> x.error(-1, 0));
        due.throwing("error(2, 0)", INDEX, x, () -> x.error(2, 0));
        due.throwing("error(0, -1)", INDEX, x, () -> x.error(0, -1));
        due.throwing("error(0, 3)", INDEX, x, () -> x.error(0, 3));
        due.throwing("error of the greatest int", INDEX, x, () -> x.error(Integer.MAX_VALUE, 0));
        due.throwing("error of the least int", INDEX, x, () -> x.error(Integer.MIN_VALUE, 0));
        x.addRule(1, 0, 1);
        areErrors("two classes in the products", x,
                new int[][] {{3, 1, WITH_1 & ~WITH_0}, {3, 2, WITH_0 & ~WITH_1}});
    }

    private static void promise25() {
        ProductLineChecker x = threeClasses();
        x.addLink(0, 0, 3, 0);
        due.is("right with one error", x.right(), ALL & ~(WITH_0 & WITH_1));
        x.addLink(1, 1, 0, 4);
        due.is("right with two errors", x.right(), ALL & ~(WITH_0 & WITH_1) & WITH_2);
        x.addRule(1, 3, 3);
        due.is("right of the products", x.right(), ALL & ~(WITH_0 & WITH_1) & WITH_2 & ~WITH_3);
        x.addLink(2, 2, 0, 0);
        due.is("right of none", x.right(), 0);
    }

    private static void promise26() {
        ProductLineChecker x = threeClasses();
        x.addLink(0, 0, 3, 0);
        x.addLink(1, 1, 0, 4);
        due.is("errorsIn(3)", x.errorsIn(3), 2);
        x.setCondition(1, 1, 0, 2);
        due.is("errorsIn asked for at once after a change", x.errorsIn(3), 1);
        x.setCondition(1, 1, 0, 4);
        due.is("errorsIn(7)", x.errorsIn(7), 1);
        due.is("errorsIn(0)", x.errorsIn(0), 1);
        due.is("errorsIn(4)", x.errorsIn(4), 0);
        due.is("errorsIn(15)", x.errorsIn(15), 1);
        x.addRule(1, 3, 3);
        due.throwing("errorsIn of no product", ARGUMENT, x, () -> x.errorsIn(15));
        due.throwing("errorsIn(-1)", ARGUMENT, x, () -> x.errorsIn(-1));
        due.throwing("errorsIn(16)", ARGUMENT, x, () -> x.errorsIn(16));
        due.throwing("errorsIn(35)", ARGUMENT, x, () -> x.errorsIn(35));
    }

    /** A program in which just the products of one condition are wrong. */
    private static ProductLineChecker wrongWith(int on, int off) {
        ProductLineChecker x = threeClasses();
        x.addLink(0, 0, on, off);
        return x;
    }

    private static void promise27() {
        due.is("culprit of no error", threeClasses().culprit(), -1);
        due.is("culprit of all products", wrongWith(0, 0).culprit(), 0);
        due.is("culprit of a feature that is on", wrongWith(4, 0).culprit(), 16 * 4);
        due.is("culprit of a feature that is off", wrongWith(0, 4).culprit(), 4);
        due.is("culprit of two features", wrongWith(8, 1).culprit(), 16 * 8 + 1);
        due.is("culprit of all features", wrongWith(5, 10).culprit(), 16 * 5 + 10);
        ProductLineChecker two = wrongWith(1, 0);
        two.addLink(1, 1, 0, 8);
        due.is("culprit of several: the least", two.culprit(), 8);
        ProductLineChecker fewer = wrongWith(0, 3);
        fewer.addLink(1, 1, 8, 0);
        due.is("culprit of several: with fewest features", fewer.culprit(), 16 * 8);
        ProductLineChecker ruled = wrongWith(3, 0);
        ruled.addRule(0, 1, 0);
        due.is("culprit with a rule that spares a feature", ruled.culprit(), 16 * 2);
        ProductLineChecker spared = wrongWith(3, 0);
        spared.addRule(1, 0, 1);
        due.is("culprit when no product is wrong", spared.culprit(), -1);
        ProductLineChecker dead = wrongWith(0, 2);
        dead.addRule(1, 0, 0);
        due.is("culprit is true for some product", dead.culprit(), 2);
    }

    private static void promise28() {
        due.is("share of no error", threeClasses().share(), 1.0);
        due.is("share of all wrong", wrongWith(0, 0).share(), 0.0);
        due.is("share of a quarter wrong", wrongWith(3, 0).share(), 0.75);
        ProductLineChecker x = wrongWith(1, 0);
        x.addRule(0, 0, 1);
        due.is("share of a third wrong", x.share(), 8.0 / 12.0);
    }

    private static long digestOf(long... numbers) {
        long d = 149;
        for (long x : numbers) {
            d = d * 31 + x;
        }
        return d;
    }

    private static void promise29() {
        due.is("digest of a new object", new ProductLineChecker().digest(), digestOf(ALL, 0, 0, 0, 0, 0, 0));
        ProductLineChecker x = new ProductLineChecker();
        for (int f = 1; f < 4; f++) {
            x.addRule(1, f, f);
        }
        due.is("digest with rules", x.digest(), digestOf(3, 0, 0, 0, 0, 0, 0));
        x.addClass(0, 0);
        x.addClass(1, 0);
        x.addLink(1, 0, 0, 0);
        x.addMethod(0, 0, 8, -1, -1, 0, 0);
        x.addField(1, 0, 8, 0, 1);
        x.addMethod(1, 1, 8, -1, -1, 0, 0);
        x.addPlain(0, true);
        x.addNew(0, 1);
        x.addPlain(2, false);
        x.addResult(0, 1, 0);
        due.is("digest of a program", x.digest(), digestOf(
                3, 2, 1, 3, 1, 3,
                3, 2, 2, 3, 0, 2, 2,
                4, 4, 1, 1, 4, 2, 1, 8, 1, 1, 12, 0, 2,
                0, 0, -1, 1, -2, 8));
        due.is("digest again", x.digest(), x.digest());
    }
}

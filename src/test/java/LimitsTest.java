import java.math.BigInteger;
import java.util.ArrayList;
import java.util.List;

/**
 * What the document's boundaries still let in: the least and greatest numbers, nothing there yet, all
 * full, the last element of each sort, chains and rings as long as can be, and a digest that wraps around.
 * What they keep out is in RefusalTest.
 */
public final class LimitsTest {
    private static final int ALL = 65535;
    private static final int REQUIRE = 0;
    private static final int CALLS = 512;

    private static final Due due = new Due();

    /** Adds an element with a condition, and tells its number. */
    private interface Adder {
        int add(ProductLineChecker x, int on, int off);
    }

    public static void main(String[] args) {
        aNewObject();
        everyRule();
        rulesUpToEight();
        fewestProducts();
        everyCondition();
        everyConditionThatIsSet();
        numbersInOrderOfCreation();
        numbersAfterDrops();
        leastAndGreatestTypes();
        eightClasses();
        twelveLinks();
        twentyFourMembers();
        aFieldAsTheTwentyFourth();
        everyNameOfEverySort();
        parameters();
        fiftyExpressions();
        partsOfTheLargestNumbers();
        partsBelongToTheSameMethod();
        noArgumentIsNoExpression();
        sixteenResults();
        countsWhenFull();
        firstOfTheLinksThatAreThere();
        longestChain();
        rings();
        findsAlongTheLongestChain();
        findsInRings();
        shares();
        digestWrapsAround();
        digestOfNothing();
        theLastOfTheCalls();
        due.end();
    }

    private static ProductLineChecker withClasses(int classes) {
        ProductLineChecker x = new ProductLineChecker();
        for (int of = 0; of < classes; of++) {
            due.is("addClass", x.addClass(0, 0), of);
        }
        return x;
    }

    /** The configurations for which a condition is true, by the document's words. */
    private static int where(int on, int off) {
        int set = 0;
        for (int c = 0; c <= 15; c++) {
            boolean isTrue = true;
            for (int f = 0; f <= 3; f++) {
                boolean isOn = c / (1 << f) % 2 == 1;
                isTrue &= isOn || on / (1 << f) % 2 == 0;
                isTrue &= !isOn || off / (1 << f) % 2 == 0;
            }
            set += isTrue ? 1 << c : 0;
        }
        return set;
    }

    /** 'Creates a checker without rules, and an empty program.' */
    private static void aNewObject() {
        ProductLineChecker x = new ProductLineChecker();
        due.is("products of nothing", x.products(), ALL);
        for (int sort = 0; sort <= 4; sort++) {
            due.is("count of nothing", x.count(sort), 0);
        }
        due.is("errorCount of nothing", x.errorCount(), 0);
        due.is("right of nothing", x.right(), ALL);
        due.is("culprit of nothing", x.culprit(), -1);
        due.is("share of nothing", x.share(), 1.0);
        for (int c = 0; c <= 15; c++) {
            due.is("errorsIn of nothing", x.errorsIn(c), 0);
        }
    }

    /** 'REQUIRE f g (a configuration with f has g), EXCLUDE f g (no configuration has both f and g)', also f with f. */
    private static void everyRule() {
        for (int kind = 0; kind <= 1; kind++) {
            for (int f = 0; f <= 3; f++) {
                for (int g = 0; g <= 3; g++) {
                    ProductLineChecker x = new ProductLineChecker();
                    due.is("addRule", x.addRule(kind, f, g), 1);
                    int withF = where(1 << f, 0);
                    int withG = where(1 << g, 0);
                    due.is("products with rule " + kind + " " + f + " " + g, x.products(),
                            ALL & ~(kind == REQUIRE ? withF & ~withG : withF & withG));
                }
            }
        }
    }

    /** 'There are at most 8 rules': the eighth is kept too, and is the first to go. */
    private static void rulesUpToEight() {
        ProductLineChecker x = new ProductLineChecker();
        for (int rules = 1; rules <= 7; rules++) {
            due.is("addRule up to 7", x.addRule(0, 0, 0), rules);
        }
        due.is("products with 7 rules", x.products(), ALL);
        due.is("addRule as the eighth", x.addRule(1, 3, 3), 8);
        due.is("products with 8 rules", x.products(), where(0, 8));
        due.is("dropRule of the eighth", x.dropRule(), 7);
        due.is("products with 7 rules again", x.products(), ALL);
        due.is("another addRule as the eighth", x.addRule(1, 0, 0), 8);
        due.is("products with another eighth", x.products(), where(0, 1));
        for (int left = 7; left >= 0; left--) {
            due.is("dropRule down to 0", x.dropRule(), left);
            due.is("products without the eighth", x.products(), ALL);
        }
    }

    /** Configuration 0 has no feature that a rule could forbid: there is always a product. */
    private static void fewestProducts() {
        ProductLineChecker x = new ProductLineChecker();
        for (int f = 0; f <= 3; f++) {
            x.addRule(1, f, f);
            x.addRule(0, f, (f + 1) % 4);
        }
        due.is("products with no feature", x.products(), 1);
        due.is("right with one product", x.right(), 1);
        due.is("share of one product", x.share(), 1.0);
        x.addClass(15, 0);
        x.addClass(0, 15);
        due.is("presence with all features in no product", x.presence(0, 0), 0);
        due.is("presence without features in the product", x.presence(0, 1), 1);
        x.addLink(1, 1, 0, 0);
        due.is("right with one wrong product", x.right(), 0);
        due.is("share of one wrong product", x.share(), 0.0);
        due.is("culprit of one wrong product", x.culprit(), 0);
        due.is("errorsIn of one wrong product", x.errorsIn(0), 1);
    }

    /** 'on' and 'off' from 0 to 15 without a feature in common: all 81 conditions are taken, for each sort. */
    private static void everyCondition() {
        Adder[] adders = {
            (x, on, off) -> x.addClass(on, off),
            (x, on, off) -> x.addLink(0, 0, on, off),
            (x, on, off) -> x.addField(0, 0, 8, on, off),
            (x, on, off) -> x.addResult(0, on, off),
            (x, on, off) -> x.addMethod(0, 0, 8, -1, -1, on, off)};
        int[] sorts = {0, 1, 2, 3, 2};
        for (int adder = 0; adder < adders.length; adder++) {
            int taken = 0;
            for (int told = 0; told <= 255; told++) {
                int on = told / 16;
                int off = told % 16;
                if ((on & off) == 0) {
                    ProductLineChecker x = withClasses(1);
                    x.addMethod(0, 1, 8, -1, -1, 0, 0);
                    x.addPlain(0, false);
                    int number = adders[adder].add(x, on, off);
                    due.is("presence with on " + on + " off " + off, x.presence(sorts[adder], number), where(on, off));
                    taken++;
                }
            }
            due.is("conditions that are taken", taken, 81);
        }
    }

    /** 'Returns whether it is another condition than before', from each of the 81 conditions to each. */
    private static void everyConditionThatIsSet() {
        for (int sort = 0; sort <= 3; sort++) {
            for (int before = 0; before <= 255; before++) {
                if ((before / 16 & before % 16) != 0) {
                    continue;
                }
                ProductLineChecker x = withClasses(1);
                x.addLink(0, 0, 0, 0);
                x.addMethod(0, 0, 8, -1, -1, 0, 0);
                x.addPlain(0, false);
                x.addResult(0, 0, 0);
                for (int after = 0; after <= 255; after++) {
                    if ((after / 16 & after % 16) == 0) {
                        x.setCondition(sort, 0, before / 16, before % 16);
                        due.is("setCondition from " + before + " to " + after,
                                x.setCondition(sort, 0, after / 16, after % 16), after != before);
                        due.is("presence after setCondition", x.presence(sort, 0), where(after / 16, after % 16));
                    }
                }
            }
        }
    }

    /** 'Each of these is numbered by itself, from 0 in the order of creation' */
    private static void numbersInOrderOfCreation() {
        ProductLineChecker x = new ProductLineChecker();
        due.is("first class", x.addClass(0, 0), 0);
        due.is("first link", x.addLink(0, 0, 0, 0), 0);
        due.is("first member", x.addField(0, 0, 8, 0, 0), 0);
        due.is("a method behind a field", x.addMethod(0, 0, 8, 8, -1, 0, 0), 1);
        due.is("a field behind a method", x.addField(0, 0, 8, 0, 0), 2);
        due.is("a method behind both", x.addMethod(0, 0, 8, -1, -1, 0, 0), 3);
        due.is("first expression", x.addPlain(1, true), 0);
        due.is("an expression of another method", x.addNew(3, 0), 1);
        due.is("an expression of the first method", x.addArgument(1, 0), 2);
        due.is("an expression of an expression", x.addFieldOf(1, 0), 3);
        due.is("a call", x.addCall(0, 0, 2, -1), 4);
        due.is("first result", x.addResult(4, 0, 0), 0);
        due.is("second class", x.addClass(0, 0), 1);
        due.is("second link", x.addLink(0, 1, 0, 0), 1);
        due.is("second result", x.addResult(0, 0, 0), 1);
    }

    /** 'Removes the result that was added last': its number is free again, and all but it stay. */
    private static void numbersAfterDrops() {
        ProductLineChecker x = State.FULL_OF_RESULTS.make();
        due.is("dropResult of 16", x.dropResult(), 15);
        due.is("count after dropResult of 16", x.count(3), 15);
        due.is("presence of the last that is left", x.presence(3, 14), where(0, 9));
        due.is("addResult as the sixteenth again", x.addResult(1, 4, 0), 15);
        due.is("presence of the new sixteenth", x.presence(3, 15), where(4, 8));
        due.is("setCondition of the sixteenth", x.setCondition(3, 15, 4, 0), false);
        for (int left = 15; left >= 1; left--) {
            due.is("dropResult down to 1", x.dropResult(), left);
        }
        due.is("presence of the first", x.presence(3, 0), where(0, 8));
        due.is("setCondition of the first to what it was", x.setCondition(3, 0, 0, 0), false);
        due.is("dropResult of the first", x.dropResult(), 0);
        due.is("count of no results", x.count(3), 0);
        due.is("addResult after all are dropped", x.addResult(0, 2, 0), 0);
    }

    /** 'Types are 0 to 7 for the classes with these numbers, and 8 for INT.' */
    private static void leastAndGreatestTypes() {
        for (int classes = 1; classes <= 8; classes++) {
            for (int type = 0; type <= 8; type++) {
                if (type < classes || type == 8) {
                    ProductLineChecker x = withClasses(classes);
                    x.addMethod(0, 0, type, type, type, 0, 0);
                    x.addField(0, 0, type, 0, 0);
                    x.addPlain(0, true);
                    x.addArgument(0, 0);
                    x.addArgument(0, 1);
                    x.addFieldOf(0, 0);
                    x.addCall(0, 0, 1, 2);
                    for (int e = 1; e <= 4; e++) {
                        due.is("type " + type + " of " + classes + " classes", x.typeOf(e, 15), type);
                    }
                    due.is("errors with type " + type, x.errorCount(), 0);
                }
            }
        }
    }

    /** 'Classes, at most 8': the last one is one like the others. */
    private static void eightClasses() {
        ProductLineChecker x = withClasses(8);
        due.is("presence of class 7", x.presence(0, 7), ALL);
        due.is("a link of class 7", x.addLink(7, 6, 0, 0), 0);
        due.is("a link to class 7", x.addLink(0, 7, 0, 0), 1);
        due.is("parent of class 7", x.parent(7, 15), 6);
        due.is("parent that is class 7", x.parent(0, 15), 7);
        due.is("class 7 below", x.isBelow(7, 6, 15), true);
        due.is("class 7 above", x.isBelow(0, 7, 15), true);
        due.is("a field of class 7", x.addField(7, 9, 7, 0, 0), 0);
        due.is("find in class 7", x.find(7, 9, false, 15), 0);
        due.is("find by way of class 7", x.find(0, 9, false, 15), 0);
        x.addMethod(7, 9, 7, 7, 7, 0, 0);
        x.addPlain(1, true);
        due.is("type of SELF in class 7", x.typeOf(0, 15), 7);
        due.is("setCondition of class 7", x.setCondition(0, 7, 1, 0), true);
        due.is("parent of class 7 where it is not", x.parent(7, 14), -1);
        due.is("parent where class 7 is not", x.parent(0, 14), -1);
    }

    /** 'Links, at most 12': the last one is one like the others. */
    private static void twelveLinks() {
        ProductLineChecker x = withClasses(2);
        for (int link = 0; link < 11; link++) {
            due.is("addLink up to 11", x.addLink(0, 0, 15, 0), link);
        }
        due.is("addLink as the twelfth", x.addLink(0, 1, 0, 0), 11);
        due.is("presence of link 11", x.presence(1, 11), ALL);
        due.is("parent by link 11", x.parent(0, 0), 1);
        due.is("parent by link 0", x.parent(0, 15), 0);
        due.is("setCondition of class 1", x.setCondition(0, 1, 0, 1), true);
        due.is("error of link 11: kind", x.error(0, 0), 1);
        due.is("error of link 11: element", x.error(0, 1), 11);
        due.is("error of link 11: set", x.error(0, 2), where(1, 0));
    }

    /** 'Members, at most 24': the last one is one like the others. */
    private static void twentyFourMembers() {
        ProductLineChecker x = withClasses(3);
        for (int member = 0; member < 23; member++) {
            due.is("addField up to 23", x.addField(0, member % 10, 8, 0, 0), member);
        }
        due.is("addMethod as the twenty-fourth", x.addMethod(0, 0, 8, 0, 1, 0, 0), 23);
        due.is("presence of member 23", x.presence(2, 23), ALL);
        due.is("find of member 23", x.find(0, 0, true, 15), 23);
        due.is("an expression of member 23", x.addPlain(23, true), 0);
        due.is("the second argument of member 23", x.addArgument(23, 1), 1);
        due.is("type of the second argument", x.typeOf(1, 0), 1);
        due.is("the first argument of member 23", x.addArgument(23, 0), 2);
        due.is("type of the first argument", x.typeOf(2, 0), 0);
        x.setCondition(2, 23, 8, 0);
        due.is("presence of member 23 that is set", x.presence(2, 23), where(8, 0));
        due.is("presence of member 22", x.presence(2, 22), ALL);
        due.is("type where member 23 is not there", x.typeOf(1, 0), -2);
        x.setCondition(0, 1, 0, 15);
        due.is("errors of member 23", x.errorsIn(15), 13 + 1);
        due.is("last error of members: kind", x.error(0, 0), 5);
        due.is("last error of members: element", x.error(0, 1), 23);
    }

    private static void aFieldAsTheTwentyFourth() {
        ProductLineChecker x = withClasses(3);
        for (int member = 0; member < 23; member++) {
            due.is("addMethod up to 23", x.addMethod(0, member % 10, 8, -1, -1, 0, 0), member);
        }
        due.is("addField as the twenty-fourth", x.addField(1, 0, 2, 0, 0), 23);
        due.is("find of field 23", x.find(1, 0, false, 15), 23);
        x.setCondition(0, 2, 1, 0);
        due.is("errors without the type of field 23", x.errorsIn(0), 13 + 1);
        due.is("errors with it", x.errorsIn(1), 13);
        due.is("element of the first error", x.error(0, 1), 23);
    }

    /** 'a name from 0 to 9': no two of a class, a sort and a name are taken for one another. */
    private static void everyNameOfEverySort() {
        for (int of = 0; of <= 7; of++) {
            for (int name = 0; name <= 9; name++) {
                ProductLineChecker x = withClasses(8);
                x.addField(of, name, 8, 0, 0);
                x.addMethod(of, name, 8, -1, -1, 0, 0);
                for (int a = 0; a <= 7; a++) {
                    for (int n = 0; n <= 9; n++) {
                        boolean isIt = a == of && n == name;
                        due.is("find of a field " + a + " " + n, x.find(a, n, false, 0), isIt ? 0 : -1);
                        due.is("find of a method " + a + " " + n, x.find(a, n, true, 15), isIt ? 1 : -1);
                    }
                }
            }
        }
    }

    /** 'methods, which have up to two parameters' */
    private static void parameters() {
        ProductLineChecker x = withClasses(1);
        due.is("a method without parameters", x.addMethod(0, 0, 8, -1, -1, 0, 0), 0);
        due.is("a method with one", x.addMethod(0, 1, 8, 8, -1, 0, 0), 1);
        due.is("a method with two", x.addMethod(0, 2, 8, 0, 8, 0, 0), 2);
        due.is("the first of one", x.addArgument(1, 0), 0);
        due.is("the first of two", x.addArgument(2, 0), 1);
        due.is("the second of two", x.addArgument(2, 1), 2);
        due.is("type of the first of one", x.typeOf(0, 0), 8);
        due.is("type of the first of two", x.typeOf(1, 0), 0);
        due.is("type of the second of two", x.typeOf(2, 0), 8);
    }

    /** 'Expressions, at most 50': each kind can be the last one. */
    private static void fiftyExpressions() {
        List<Answers.Use> last = List.of(x -> x.addNew(0, 0), x -> x.addPlain(0, true), x -> x.addPlain(0, false),
                x -> x.addArgument(0, 0), x -> x.addFieldOf(48, 0), x -> x.addCall(48, 1, 48, -1));
        int[] types = {0, 0, 8, 0, 8, 8};
        for (int i = 0; i < types.length; i++) {
            ProductLineChecker x = withClasses(1);
            x.addMethod(0, 1, 8, 0, -1, 0, 0);
            x.addField(0, 0, 8, 0, 0);
            for (int e = 0; e < 49; e++) {
                due.is("addPlain up to 49", x.addPlain(0, true), e);
            }
            due.is("the fiftieth", (Integer) last.get(i).on(x), 49);
            due.is("count of 50", x.count(4), 50);
            due.is("type of expression 49", x.typeOf(49, 15), types[i]);
            due.is("a result of expression 49", x.addResult(49, 0, 0), 0);
            due.is("errors with expression 49", x.errorCount(), types[i] == 8 ? 0 : 1);
        }
    }

    /** 'An expression that is a part of another one has a smaller number': the one just before can be each part. */
    private static void partsOfTheLargestNumbers() {
        ProductLineChecker x = withClasses(1);
        x.addMethod(0, 0, 0, 0, 0, 0, 0);
        x.addField(0, 0, 0, 0, 0);
        x.addPlain(0, true);
        for (int e = 1; e < 50; e++) {
            due.is("a part just before", e % 2 == 0 ? x.addFieldOf(e - 1, 0) : x.addCall(e - 1, 0, e - 1, e - 1), e);
        }
        due.is("type of 49 parts in one another", x.typeOf(49, 0), 0);
        due.is("errors of 49 parts in one another", x.errorCount(), 0);
        x.setCondition(2, 1, 1, 0);
        due.is("errors when a part of all but two has none", x.errorCount(), 1);
        due.is("the one error: element", x.error(0, 1), 2);
        due.is("type of what has no error but such a part", x.typeOf(49, 0), -1);
        due.is("type of what has no such part", x.typeOf(1, 0), 0);
    }

    /** 'and belongs to the same method', here the second one, and not that of expression 0. */
    private static void partsBelongToTheSameMethod() {
        ProductLineChecker x = withClasses(2);
        x.addMethod(0, 0, 8, -1, -1, 1, 0);
        x.addMethod(1, 0, 1, 1, 1, 2, 0);
        x.addField(1, 0, 1, 0, 0);
        x.addPlain(0, false);
        x.addPlain(1, true);
        due.is("a FIELD of the second method", x.addFieldOf(1, 0), 2);
        due.is("a CALL of the second method", x.addCall(1, 0, 2, 2), 3);
        due.is("a CALL with parts of the second method", x.addCall(2, 0, 3, 3), 4);
        due.is("a FIELD of a CALL of the second method", x.addFieldOf(4, 0), 5);
        for (int e = 0; e <= 5; e++) {
            due.is("type where both methods are there", x.typeOf(e, 3), e == 0 ? 8 : 1);
            due.is("type where the first is there", x.typeOf(e, 1), e == 0 ? 8 : -2);
            due.is("type where the second is there", x.typeOf(e, 2), e == 0 ? -2 : 1);
            due.is("type where none is there", x.typeOf(e, 0), -2);
        }
        due.is("a result of the second method", x.addResult(5, 0, 0), 0);
        due.is("presence of that result", x.presence(3, 0), where(2, 0));
        due.is("errors of the second method", x.errorCount(), 0);
        due.is("a CALL of the first method", x.addCall(0, 0, 0, -1), 6);
        due.throwing("an argument of the second method", IllegalArgumentException.class, x, () -> x.addCall(6, 0, 5, -1));
        due.throwing("an argument of the first method", IllegalArgumentException.class, x, () -> x.addCall(5, 0, 6, -1));
    }

    /** '-1 if it has none': it is not taken for the expression before 0, or the last one, or 0. */
    private static void noArgumentIsNoExpression() {
        for (int type = 0; type <= 8; type += 8) {
            ProductLineChecker x = withClasses(2);
            x.addMethod(0, 0, 8, -1, -1, 0, 0);
            x.addMethod(0, 1, 8, type, -1, 0, 0);
            x.addMethod(0, 2, 8, type, type, 0, 0);
            x.addField(0, 0, 8, 0, 0);
            x.addNew(0, 1);
            x.addPlain(0, true);
            x.setCondition(0, 1, 15, 0);
            due.is("a CALL without arguments", x.addCall(1, 0, -1, -1), 2);
            due.is("a CALL without an argument for one parameter", x.addCall(1, 1, -1, -1), 3);
            due.is("a CALL without arguments for two parameters", x.addCall(1, 2, -1, -1), 4);
            due.is("a FIELD", x.addFieldOf(1, 0), 5);
            for (int e = 6; e < 50; e++) {
                x.addPlain(0, type == 0);
            }
            for (int c = 0; c <= 15; c++) {
                due.is("type of a part of none", x.typeOf(0, c), c == 15 ? 1 : -1);
                due.is("type of a CALL without arguments", x.typeOf(2, c), 8);
                due.is("type of a CALL without an argument for one", x.typeOf(3, c), -1);
                due.is("type of a CALL without arguments for two", x.typeOf(4, c), -1);
                due.is("type of a FIELD", x.typeOf(5, c), 8);
            }
        }
    }

    /** 'Results, at most 16': the last one is one like the others. */
    private static void sixteenResults() {
        ProductLineChecker x = withClasses(1);
        x.addMethod(0, 0, 8, -1, -1, 0, 0);
        x.addPlain(0, false);
        x.addPlain(0, true);
        for (int result = 0; result < 15; result++) {
            due.is("addResult up to 15", x.addResult(0, 0, 0), result);
        }
        due.is("addResult as the sixteenth", x.addResult(1, 3, 12), 15);
        due.is("presence of result 15", x.presence(3, 15), 1 << 3);
        due.is("errorCount with result 15", x.errorCount(), 1);
        due.is("error of result 15: kind", x.error(0, 0), 12);
        due.is("error of result 15: element", x.error(0, 1), 15);
        due.is("error of result 15: set", x.error(0, 2), 1 << 3);
        due.is("setCondition of result 15", x.setCondition(3, 15, 0, 0), true);
        due.is("set of the error after that", x.error(0, 2), ALL);
        due.is("dropResult of result 15", x.dropResult(), 15);
        due.is("errorCount without result 15", x.errorCount(), 0);
    }

    /** All limits of 'Description' at once. */
    private static void countsWhenFull() {
        ProductLineChecker x = State.FULL.make();
        int[] limits = {8, 12, 24, 16, 50};
        for (int sort = 0; sort <= 4; sort++) {
            due.is("count of sort " + sort + " when full", x.count(sort), limits[sort]);
        }
        for (int sort = 0; sort <= 3; sort++) {
            for (int number = 0; number < limits[sort]; number++) {
                due.is("presence when full", x.presence(sort, number), 3);
            }
        }
        due.is("products when full", x.products(), 3);
        due.is("dropRule when full", x.dropRule(), 7);
        due.is("dropResult when full", x.dropResult(), 15);
        due.is("addResult when full but for it", x.addResult(34, 0, 0), 15);
        due.is("addRule when full but for it", x.addRule(1, 0, 0), 8);
        due.is("products with that rule", x.products(), 1);
    }

    /** 'the first of its links that are there (none, if there are none)' */
    private static void firstOfTheLinksThatAreThere() {
        ProductLineChecker x = withClasses(8);
        for (int link = 0; link < 12; link++) {
            x.addLink(0, link % 7 + 1, 15, 0);
        }
        due.is("parent without a link that is there", x.parent(0, 0), -1);
        due.is("parent of twelve", x.parent(0, 15), 1);
        for (int link = 11; link >= 0; link--) {
            x.setCondition(1, link, 0, 0);
            due.is("parent by link " + link, x.parent(0, 0), link % 7 + 1);
        }
        x.setCondition(0, 0, 1, 0);
        due.is("parent of a class that is not there", x.parent(0, 0), -1);
        x.setCondition(0, 1, 0, 1);
        due.is("parent when the first is not there", x.parent(0, 1), 2);
    }

    /** 'a class is below another one if that is its parent, or its parent is below that' */
    private static void longestChain() {
        ProductLineChecker x = withClasses(8);
        for (int of = 0; of < 7; of++) {
            x.addLink(of, of + 1, 0, 0);
        }
        for (int a = 0; a <= 7; a++) {
            for (int b = 0; b <= 7; b++) {
                due.is(a + " below " + b, x.isBelow(a, b, 0), a < b);
            }
        }
        due.is("errors of the longest chain", x.errorCount(), 0);
    }

    /** 'each of these is below each, itself included', from rings of one class to rings of all. */
    private static void rings() {
        for (int length = 1; length <= 8; length++) {
            ProductLineChecker x = withClasses(8);
            for (int of = 0; of < 8; of++) {
                x.addLink(of, of == 7 ? 8 - length : of + 1, 0, 0);
            }
            for (int a = 0; a <= 7; a++) {
                for (int b = 0; b <= 7; b++) {
                    due.is(a + " below " + b + " with a ring of " + length, x.isBelow(a, b, 0),
                            b > a || b >= 8 - length);
                }
            }
            due.is("errors of a ring of " + length, x.errorCount(), length);
            for (int error = 0; error < length; error++) {
                due.is("kind of an error of a ring", x.error(error, 0), 3);
                due.is("element of an error of a ring", x.error(error, 1), 8 - length + error);
            }
        }
    }

    /** 'if there is none, the same in the parent of the class, and so on' */
    private static void findsAlongTheLongestChain() {
        ProductLineChecker x = withClasses(8);
        for (int of = 0; of < 7; of++) {
            x.addLink(of, of + 1, 0, 0);
        }
        x.addField(7, 0, 8, 0, 0);
        x.addMethod(7, 0, 8, -1, -1, 0, 0);
        due.is("find of a field at the end of the chain", x.find(0, 0, false, 0), 0);
        due.is("find of a method at the end of the chain", x.find(0, 0, true, 0), 1);
        due.is("find of nothing up to the end of the chain", x.find(0, 1, true, 0), -1);
        for (int of = 6; of >= 0; of--) {
            int number = x.addField(of, 0, 8, 0, 0);
            due.is("find of what is nearest", x.find(0, 0, false, 0), number);
        }
        x.setCondition(0, 7, 1, 0);
        due.is("find where the end of the chain is not there", x.find(0, 0, true, 0), -1);
    }

    /** 'if a class would be asked again, .. none is found' */
    private static void findsInRings() {
        for (int length = 1; length <= 8; length++) {
            ProductLineChecker x = withClasses(8);
            for (int of = 0; of < length; of++) {
                x.addLink(of, (of + 1) % length, 0, 0);
            }
            x.addMethod(length - 1, 9, 8, -1, -1, 0, 1);
            for (int of = 0; of < 8; of++) {
                due.is("find in a ring of " + length, x.find(of, 9, true, 0), of < length ? 0 : -1);
                due.is("find of nothing in a ring of " + length, x.find(of, 9, true, 1), -1);
                due.is("find of no field in a ring of " + length, x.find(of, 9, false, 0), -1);
            }
        }
    }

    /** 'the number of products without errors divided by the number of products', for all such numbers. */
    private static void shares() {
        int[][] rules = {{}, {1, 0, 0}, {1, 0, 1}, {0, 0, 1}, {1, 0, 0, 1, 1, 2}, {1, 0, 0, 1, 1, 1}, {1, 0, 0, 1, 1, 1, 1, 2, 3}};
        int[] products = {16, 8, 12, 12, 6, 4, 3};
        for (int i = 0; i < rules.length; i++) {
            for (int features = 0; features <= 4; features++) {
                ProductLineChecker x = withClasses(1);
                for (int at = 0; at < rules[i].length; at += 3) {
                    x.addRule(rules[i][at], rules[i][at + 1], rules[i][at + 2]);
                }
                x.addLink(0, 0, 0, (1 << features) - 1);
                int right = Integer.bitCount(x.products() & ~where(0, (1 << features) - 1));
                due.is("number of products", Integer.bitCount(x.products()), products[i]);
                due.is("number of right products", Integer.bitCount(x.right()), right);
                due.is("share of " + right + " of " + products[i], x.share(), (double) right / products[i]);
            }
        }
    }

    private interface Maker {
        ProductLineChecker make();
    }

    /** The numbers of the digest, as the other calls tell them; two checkers share the many calls. */
    private static List<Integer> numbersOfDigest(Maker state) {
        ProductLineChecker x = state.make();
        int products = x.products();
        List<Integer> numbers = new ArrayList<>(List.of(products));
        for (int sort = 0; sort <= 4; sort++) {
            numbers.add(x.count(sort));
        }
        for (int sort = 0; sort <= 3; sort++) {
            for (int number = 0; number < numbers.get(1 + sort); number++) {
                numbers.add(x.presence(sort, number));
            }
        }
        int errors = x.errorCount();
        numbers.add(errors);
        for (int error = 0; error < errors; error++) {
            for (int what = 0; what <= 2; what++) {
                numbers.add(x.error(error, what));
            }
        }
        addTypes(numbers, state.make(), products);
        return numbers;
    }

    private static void addTypes(List<Integer> numbers, ProductLineChecker x, int products) {
        int expressions = x.count(4);
        for (int e = 0; e < expressions; e++) {
            for (int c = 0; c <= 15; c++) {
                if ((products >> c & 1) == 1) {
                    numbers.add(x.typeOf(e, c));
                }
            }
        }
    }

    /** d as it would be if it never wrapped around. */
    private static BigInteger unwrapped(List<Integer> numbers) {
        BigInteger d = BigInteger.valueOf(149);
        for (int number : numbers) {
            d = d.multiply(BigInteger.valueOf(31)).add(BigInteger.valueOf(number));
        }
        return d;
    }

    /** 'd becomes d * 31 + x, which wraps around as a 64-bit integer' - just not yet, just so, and many times. */
    private static void digestWrapsAround() {
        BigInteger greatest = BigInteger.valueOf(Long.MAX_VALUE);
        boolean isUnwrappedSeen = false;
        boolean isNegativeSeen = false;
        boolean isPositiveSeen = false;
        for (int i = 0; i <= 8; i++) {
            int classes = i;
            BigInteger d = unwrapped(numbersOfDigest(() -> withClasses(classes)));
            long digest = withClasses(classes).digest();
            due.is("digest with " + classes + " classes", digest, d.longValue());
            boolean isWrapped = d.compareTo(greatest) > 0;
            isUnwrappedSeen |= !isWrapped;
            isNegativeSeen |= isWrapped && digest < 0;
            isPositiveSeen |= isWrapped && digest > 0;
        }
        due.is("a digest that has not wrapped around", isUnwrappedSeen, true);
        due.is("a digest that has wrapped around to below 0", isNegativeSeen, true);
        due.is("a digest that has wrapped around to above 0", isPositiveSeen, true);
        isDigestDue("each kind of expression in all products", LimitsTest::allKindsInAllProducts);
        for (State state : State.values()) {
            isDigestDue("where it is " + state, state::make);
        }
    }

    private static void isDigestDue(String what, Maker state) {
        long d = unwrapped(numbersOfDigest(state)).longValue();
        ProductLineChecker x = state.make();
        due.is("digest " + what, x.digest(), d);
        due.is("digest again " + what, x.digest(), d);
    }

    /** Types that are others in product 15 than in the others, and -2 in some. */
    private static ProductLineChecker allKindsInAllProducts() {
        ProductLineChecker x = withClasses(2);
        x.setCondition(0, 1, 15, 0);
        x.addMethod(0, 0, 8, 8, -1, 0, 0);
        x.addMethod(0, 1, 8, 8, -1, 1, 8);
        x.addField(0, 0, 0, 15, 0);
        for (int method = 0; method <= 1; method++) {
            x.addNew(method, 1);
            x.addPlain(method, true);
            x.addPlain(method, false);
            x.addArgument(method, 0);
            x.addFieldOf(7 * method + 1, 0);
            x.addCall(7 * method + 1, 0, 7 * method + 2, -1);
            x.addCall(7 * method + 1, 1, 7 * method + 2, -1);
        }
        return x;
    }

    /** The numbers of a new object are the set of all products and six times 0; written out by hand. */
    private static void digestOfNothing() {
        long d = 149 * 31 + 65535;
        for (int number = 0; number < 6; number++) {
            d = d * 31;
        }
        due.is("digest of a new object", new ProductLineChecker().digest(), d);
        ProductLineChecker one = new ProductLineChecker();
        for (int f = 0; f <= 3; f++) {
            one.addRule(1, f, f);
        }
        due.is("digest of one product", one.digest(), (149L * 31 + 1) * 31 * 31 * 31 * 31 * 31 * 31);
    }

    /** 'An object is used for at most 512 calls': the last one is answered like the first. */
    private static void theLastOfTheCalls() {
        ProductLineChecker x = new ProductLineChecker();
        for (int call = 1; call <= CALLS - 2; call += 2) {
            due.is("addRule as call " + call, x.addRule(1, 3, 3), 1);
            due.is("dropRule as call " + (call + 1), x.dropRule(), 0);
        }
        due.is("addClass as the call before the last", x.addClass(0, 0), 0);
        due.is("presence as the last call", x.presence(0, 0), ALL);
    }
}

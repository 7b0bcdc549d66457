/**
 * The sentences of 'Description' on what is found, types and errors, and what they say of the cases at
 * their edges: for each part of a sentence a case that is just inside, and one that is just outside.
 */
public final class ErrorEdgesTest {
    private static final int INT = 8;
    private static final int NONE = -1;
    private static final int ALL = 65535;
    private static final int WITH_0 = 0xAAAA;
    private static final int WITH_1 = 0xCCCC;
    private static final int WITH_2 = 0xF0F0;
    private static final int WITH_3 = 0xFF00;
    private static final int[][] NO_ERRORS = {};

    private static final Due due = new Due();

    public static void main(String[] args) {
        presenceOfLinks();
        presenceOfMembersAndResults();
        fitting();
        fittingOfAllTypes();
        firstMemberThatIsFound();
        typesWithoutMethod();
        typesOfWhatHasErrors();
        error1();
        error2();
        error3();
        error4();
        error5();
        error5OfMembersThatAreNotThere();
        error5OfAFieldWithoutParameters();
        error6();
        error7OfParameters();
        error7OfTypes();
        error7OfWhatIsFound();
        error8();
        error9();
        error10();
        error11OfNumbers();
        error11OfTypes();
        error12();
        errorsOfPartsWithoutType();
        sameElementIsOneError();
        errorsInNoProduct();
        orderOfErrors();
        mostErrors();
        everyQuestionAsTheFirst();
        everyQuestionAfterAChange();
        culpritOfOneCondition();
        culpritOfSeveral();
        culpritThatIsTrueForAProduct();
        due.end();
    }

    private static ProductLineChecker withClasses(int classes) {
        ProductLineChecker x = new ProductLineChecker();
        for (int of = 0; of < classes; of++) {
            x.addClass(0, 0);
        }
        return x;
    }

    /** Class 0 is below 1, which is below 2; class 3 is alone. */
    private static ProductLineChecker chain() {
        ProductLineChecker x = withClasses(4);
        x.addLink(0, 1, 0, 0);
        x.addLink(1, 2, 0, 0);
        return x;
    }

    private static void areErrors(String what, ProductLineChecker x, int[][] wanted) {
        due.is(what + ": errorCount", x.errorCount(), wanted.length);
        for (int error = 0; error < wanted.length && error < x.errorCount(); error++) {
            due.is(what + ": kind of " + error, x.error(error, 0), wanted[error][0]);
            due.is(what + ": element of " + error, x.error(error, 1), wanted[error][1]);
            due.is(what + ": set of " + error, x.error(error, 2), wanted[error][2]);
        }
    }

    private static int[][] oneIf(boolean isError, int kind, int element, int set) {
        return isError ? new int[][] {{kind, element, set}} : NO_ERRORS;
    }

    /** 'A link is there if its condition is true, and its class and its parent are there.' */
    private static void presenceOfLinks() {
        ProductLineChecker x = new ProductLineChecker();
        x.addClass(1, 0);
        x.addClass(2, 0);
        x.addLink(0, 1, 4, 0);
        x.addLink(1, 1, 0, 0);
        due.is("presence of a link", x.presence(1, 0), WITH_0 & WITH_1 & WITH_2);
        due.is("presence of a link to the same class", x.presence(1, 1), WITH_1);
        x.addRule(1, 0, 1);
        due.is("presence of a link in no product", x.presence(1, 0), 0);
    }

    /** 'A member is there if its condition is true, and its class is there.' 'A result is there if ..' */
    private static void presenceOfMembersAndResults() {
        ProductLineChecker x = new ProductLineChecker();
        x.addClass(1, 0);
        x.addMethod(0, 0, INT, NONE, NONE, 2, 0);
        x.addPlain(0, false);
        x.addResult(0, 4, 0);
        x.addResult(0, 0, 0);
        due.is("presence of a member", x.presence(2, 0), WITH_0 & WITH_1);
        due.is("presence of a result", x.presence(3, 0), WITH_0 & WITH_1 & WITH_2);
        due.is("presence of a result without condition", x.presence(3, 1), WITH_0 & WITH_1);
    }

    /** 'A type fits another one if they are the same, or both are classes, and the first one is below the second one.' */
    private static void fitting() {
        for (int type = 0; type <= 4; type++) {
            for (int other = 0; other <= 4; other++) {
                ProductLineChecker x = chain();
                int first = type == 4 ? INT : type;
                int second = other == 4 ? INT : other;
                x.addMethod(3, 0, second, first, NONE, 0, 0);
                x.addArgument(0, 0);
                x.addResult(0, 0, 0);
                boolean fits = type == other || type < other && other <= 2;
                areErrors(first + " as a result of type " + second, x, oneIf(!fits, 12, 0, ALL));
            }
        }
    }

    /** All classes in a chain, upwards and downwards, so that 0 and 7 are each once above all others. */
    private static void fittingOfAllTypes() {
        for (int step = -1; step <= 1; step += 2) {
            for (int type = 0; type <= 8; type++) {
                for (int other = 0; other <= 8; other++) {
                    ProductLineChecker x = withClasses(8);
                    for (int of = 0; of <= 7; of++) {
                        if (of + step >= 0 && of + step <= 7) {
                            x.addLink(of, of + step, 0, 0);
                        }
                    }
                    x.addMethod(0, 0, other, type, NONE, 0, 0);
                    x.addArgument(0, 0);
                    x.addResult(0, 0, 0);
                    boolean fits = type == other || type < 8 && other < 8 && type < other == step > 0;
                    areErrors(type + " for " + other + " in a chain", x, oneIf(!fits, 12, 0, ALL));
                }
            }
        }
    }

    /** 'the first member of this sort that is there and belongs to the class and has the name' */
    private static void firstMemberThatIsFound() {
        ProductLineChecker x = withClasses(2);
        x.addLink(0, 1, 0, 0);
        x.addMethod(0, 5, INT, NONE, NONE, 0, 0);
        x.addField(1, 5, INT, 0, 0);
        x.addField(0, 4, INT, 0, 0);
        x.addField(0, 5, INT, 8, 0);
        x.addField(0, 5, INT, 0, 1);
        x.addField(0, 5, INT, 0, 0);
        due.is("find of the first", x.find(0, 5, false, 8), 3);
        due.is("find of the second when the first is not there", x.find(0, 5, false, 0), 4);
        due.is("find of the third when two are not there", x.find(0, 5, false, 1), 5);
        x.setCondition(2, 5, 0, 1);
        due.is("find in the parent when none is there", x.find(0, 5, false, 1), 1);
        x.setCondition(0, 1, 0, 1);
        due.is("find when the parent is not there", x.find(0, 5, false, 1), -1);
        x.setCondition(0, 0, 0, 1);
        due.is("find in a class that is not there", x.find(0, 5, true, 1), -1);
        due.is("find in a class that is there", x.find(0, 5, true, 0), 0);
    }

    /** 'in a product in which their method is there': 'Returns .. -2 if its method is not there' */
    private static void typesWithoutMethod() {
        ProductLineChecker x = new ProductLineChecker();
        x.addClass(1, 0);
        x.addMethod(0, 0, INT, INT, NONE, 2, 0);
        x.addNew(0, 0);
        x.addPlain(0, false);
        x.addPlain(0, true);
        x.addArgument(0, 0);
        x.addFieldOf(1, 0);
        x.addCall(4, 0, NONE, NONE);
        int[] types = {0, 8, 0, 8, -1, -1};
        for (int e = 0; e < types.length; e++) {
            due.is("type of " + e + " where its method is there", x.typeOf(e, 3), types[e]);
            due.is("type of " + e + " where its method's condition is false", x.typeOf(e, 1), -2);
            due.is("type of " + e + " where its method's class is not there", x.typeOf(e, 2), -2);
            due.is("type of " + e + " where neither is", x.typeOf(e, 0), -2);
        }
    }

    /** 'An expression with an error, or one of whose parts has no type, has no type.' */
    private static void typesOfWhatHasErrors() {
        ProductLineChecker x = withClasses(1);
        x.addClass(1, 0);
        x.addMethod(0, 0, INT, 1, NONE, 0, 0);
        x.addMethod(0, 1, INT, 1, 1, 0, 0);
        x.addNew(0, 1);
        x.addPlain(0, true);
        x.addArgument(0, 0);
        x.addCall(1, 0, 0, NONE);
        x.addCall(1, 1, 0, 2);
        x.addCall(1, 1, 2, 0);
        x.addCall(1, 1, 2, 2);
        x.addFieldOf(3, 0);
        int[] with = {1, 0, 1, 8, 8, 8, 8, -1};
        int[] without = {-1, 0, 1, -1, -1, -1, 8, -1};
        for (int e = 0; e < with.length; e++) {
            due.is("type of " + e + " without errors", x.typeOf(e, 1), with[e]);
            due.is("type of " + e + " with errors", x.typeOf(e, 0), without[e]);
        }
        areErrors("members with a type that is not there, and a NEW", x, new int[][] {
            {5, 0, ALL & ~WITH_0}, {5, 1, ALL & ~WITH_0}, {8, 0, ALL & ~WITH_0}, {9, 7, WITH_0}});
    }

    /** '1 a link: its condition is true and its class is there, but not its parent.' */
    private static void error1() {
        ProductLineChecker x = new ProductLineChecker();
        x.addClass(1, 0);
        x.addClass(2, 0);
        x.addLink(0, 1, 4, 0);
        areErrors("condition, class and parent by features", x, new int[][] {{1, 0, WITH_0 & WITH_2 & ~WITH_1}});
        x.addLink(1, 1, 0, 0);
        areErrors("its own parent is there where it is", x,
                new int[][] {{1, 0, WITH_0 & WITH_2 & ~WITH_1}, {3, 1, WITH_1}});
    }

    /** '2 a class: it is there, and more than one of its links is.' */
    private static void error2() {
        ProductLineChecker x = withClasses(4);
        areErrors("no link", x, NO_ERRORS);
        x.addLink(0, 1, 0, 0);
        areErrors("one link", x, NO_ERRORS);
        x.addLink(2, 1, 0, 0);
        x.addLink(3, 2, 0, 0);
        areErrors("one link of each of three classes", x, NO_ERRORS);
        x.addLink(0, 1, 1, 0);
        areErrors("two links to the same parent", x, new int[][] {{2, 0, WITH_0}});
        x.setCondition(0, 1, 0, 8);
        areErrors("two links to a parent that is not there are none", x, new int[][] {
            {1, 0, WITH_3}, {1, 1, WITH_3}, {1, 3, WITH_3 & WITH_0}, {2, 0, WITH_0 & ~WITH_3}});
        x.setCondition(0, 1, 0, 0);
        x.setCondition(0, 0, 0, 4);
        areErrors("two links of a class that is not there", x, new int[][] {{2, 0, WITH_0 & ~WITH_2}});
        x.addLink(0, 3, 2, 0);
        areErrors("two of three links", x, new int[][] {{2, 0, (WITH_0 | WITH_1) & ~WITH_2}});
    }

    /** '3 a class: it is there, and below itself.' */
    private static void error3() {
        ProductLineChecker x = withClasses(3);
        x.addLink(0, 1, 0, 0);
        x.addLink(1, 2, 1, 0);
        areErrors("a chain", x, NO_ERRORS);
        x.addLink(2, 1, 2, 0);
        areErrors("a ring that a class is below of", x,
                new int[][] {{3, 1, WITH_0 & WITH_1}, {3, 2, WITH_0 & WITH_1}});
        x.setCondition(0, 2, 0, 4);
        areErrors("a ring that is not there where a class is not", x, new int[][] {
            {1, 1, WITH_0 & WITH_2}, {3, 1, WITH_0 & WITH_1 & ~WITH_2}, {3, 2, WITH_0 & WITH_1 & ~WITH_2}});
    }

    /** '4 a member: its condition is true, but its class is not there.' */
    private static void error4() {
        ProductLineChecker x = new ProductLineChecker();
        x.addClass(1, 0);
        x.addField(0, 0, INT, 2, 0);
        x.addMethod(0, 0, INT, NONE, NONE, 0, 4);
        areErrors("a field and a method", x, new int[][] {{4, 0, WITH_1 & ~WITH_0}, {4, 1, ALL & ~WITH_2 & ~WITH_0}});
    }

    /** '5 a member: it is there, and its type, or the type of a parameter, is a class that is not there.' */
    private static void error5() {
        for (int place = 0; place <= 3; place++) {
            ProductLineChecker x = withClasses(1);
            x.addClass(1, 0);
            x.addMethod(0, 0, place == 0 ? 1 : INT, place == 1 ? 1 : INT, place == 2 ? 1 : INT, 2, 0);
            areErrors("a method with a missing type at " + place, x, oneIf(place < 3, 5, 0, WITH_1 & ~WITH_0));
            x.addField(0, 0, place == 0 ? 1 : 0, 4, 0);
            areErrors("a field with it", x, place == 0
                    ? new int[][] {{5, 0, WITH_1 & ~WITH_0}, {5, 1, WITH_2 & ~WITH_0}}
                    : oneIf(place < 3, 5, 0, WITH_1 & ~WITH_0));
        }
        ProductLineChecker own = withClasses(1);
        own.addMethod(0, 0, 0, 0, 0, 0, 0);
        own.addMethod(0, 1, INT, NONE, NONE, 0, 0);
        own.setCondition(0, 0, 1, 0);
        areErrors("its own class as type", own, new int[][] {{4, 0, ALL & ~WITH_0}, {4, 1, ALL & ~WITH_0}});
    }

    private static void error5OfMembersThatAreNotThere() {
        ProductLineChecker x = new ProductLineChecker();
        x.addClass(1, 0);
        x.addClass(2, 0);
        x.addField(0, 0, 1, 4, 0);
        areErrors("a missing type where the member is there, by features", x,
                new int[][] {{4, 0, WITH_2 & ~WITH_0}, {5, 0, WITH_2 & WITH_0 & ~WITH_1}});
    }

    private static void error5OfAFieldWithoutParameters() {
        ProductLineChecker x = withClasses(2);
        x.setCondition(0, 0, 15, 0);
        x.addField(1, 0, INT, 0, 0);
        x.addField(1, 1, 1, 0, 0);
        x.addMethod(1, 0, INT, NONE, NONE, 0, 0);
        x.addMethod(1, 1, 1, 1, NONE, 0, 0);
        areErrors("what a member does not have is no class 0", x, NO_ERRORS);
    }

    /** '6 a member: it is there, and so is another one of the same sort .. with the same class and name and a smaller number.' */
    private static void error6() {
        ProductLineChecker x = withClasses(2);
        x.addField(0, 3, INT, 0, 0);
        x.addMethod(0, 3, INT, NONE, NONE, 0, 0);
        x.addField(1, 3, INT, 0, 0);
        x.addField(0, 4, INT, 0, 0);
        areErrors("another sort, class or name", x, NO_ERRORS);
        x.addField(0, 3, 0, 1, 0);
        areErrors("the same with another type", x, new int[][] {{6, 4, WITH_0}});
        x.addMethod(0, 3, INT, INT, NONE, 2, 0);
        areErrors("a method with other parameters", x, new int[][] {{6, 4, WITH_0}, {6, 5, WITH_1}});
        x.addField(0, 3, INT, 0, 0);
        x.setCondition(2, 0, 0, 12);
        areErrors("one of two with smaller numbers is enough", x, new int[][] {
            {6, 4, WITH_0 & ~WITH_2 & ~WITH_3}, {6, 5, WITH_1}, {6, 6, WITH_0 | ALL & ~WITH_2 & ~WITH_3}});
    }

    /** '7 a method: .. it has another number of parameters, or one of another type' */
    private static void error7OfParameters() {
        int[][] parameters = {{NONE, NONE}, {INT, NONE}, {0, NONE}, {1, NONE}, {INT, INT}, {INT, 0}, {INT, 1},
            {0, INT}, {1, INT}, {0, 0}, {0, 1}, {1, 0}, {1, 1}};
        for (int own = 0; own < parameters.length; own++) {
            for (int other = 0; other < parameters.length; other++) {
                ProductLineChecker x = chain();
                x.addMethod(1, 9, INT, parameters[other][0], parameters[other][1], 0, 0);
                x.addMethod(0, 9, INT, parameters[own][0], parameters[own][1], 1, 0);
                areErrors("parameters " + own + " above " + other, x, oneIf(own != other, 7, 1, WITH_0));
            }
        }
    }

    /** 'or its type does not fit that of the method that is found' */
    private static void error7OfTypes() {
        for (int type = 0; type <= 4; type++) {
            for (int other = 0; other <= 4; other++) {
                ProductLineChecker x = chain();
                x.addMethod(0, 0, type == 4 ? INT : type, NONE, NONE, 0, 2);
                x.addMethod(2, 0, other == 4 ? INT : other, NONE, NONE, 0, 0);
                boolean fits = type == other || type < other && other <= 2;
                areErrors("type " + type + " for " + other, x, oneIf(!fits, 7, 0, ALL & ~WITH_1));
            }
        }
    }

    /** 'its class has a parent, a method with its name is found in that parent' '(a method that is found to be itself is no error)' */
    private static void error7OfWhatIsFound() {
        ProductLineChecker x = withClasses(3);
        x.addMethod(1, 0, INT, NONE, NONE, 0, 0);
        x.addMethod(0, 0, 0, NONE, NONE, 0, 0);
        x.addField(0, 1, 0, 0, 0);
        x.addField(1, 1, INT, 0, 0);
        x.addMethod(0, 2, 0, NONE, NONE, 0, 0);
        areErrors("no parent", x, NO_ERRORS);
        x.addLink(0, 1, 1, 0);
        areErrors("a parent, and other names and fields", x, new int[][] {{7, 1, WITH_0}});
        x.setCondition(2, 0, 0, 4);
        areErrors("a method that is not there is not found", x, new int[][] {{7, 1, WITH_0 & ~WITH_2}});
        x.addMethod(2, 0, INT, INT, NONE, 0, 0);
        x.addLink(1, 2, 0, 0);
        areErrors("one is found in the parent's parent", x, new int[][] {
            {7, 0, ALL & ~WITH_2}, {7, 1, WITH_0}});
        ProductLineChecker ring = withClasses(2);
        ring.addLink(0, 1, 0, 0);
        ring.addLink(1, 0, 0, 0);
        ring.addMethod(0, 0, INT, INT, 0, 0, 0);
        areErrors("itself by way of a ring", ring, new int[][] {{3, 0, ALL}, {3, 1, ALL}});
        ring.addMethod(0, 0, INT, NONE, NONE, 0, 0);
        areErrors("another one by way of a ring", ring,
                new int[][] {{3, 0, ALL}, {3, 1, ALL}, {6, 1, ALL}, {7, 1, ALL}});
    }

    /** '8 NEW: its class is not there.' */
    private static void error8() {
        ProductLineChecker x = withClasses(1);
        x.addClass(1, 0);
        x.addMethod(0, 0, INT, NONE, NONE, 0, 2);
        x.addNew(0, 0);
        x.addNew(0, 1);
        areErrors("NEW where its method is there", x, new int[][] {{8, 1, ALL & ~WITH_0 & ~WITH_1}});
    }

    /** '9 FIELD, CALL: the type of e is INT.' */
    private static void error9() {
        ProductLineChecker x = withClasses(1);
        x.addMethod(0, 0, INT, NONE, NONE, 0, 2);
        x.addField(0, 0, INT, 0, 0);
        x.addPlain(0, false);
        x.addPlain(0, true);
        x.addFieldOf(0, 0);
        x.addFieldOf(1, 0);
        x.addCall(0, 0, NONE, NONE);
        x.addCall(1, 0, NONE, NONE);
        x.addCall(0, 0, 0, 1);
        x.addFieldOf(3, 0);
        int there = ALL & ~WITH_1;
        areErrors("uses of INT", x, new int[][] {{9, 2, there}, {9, 4, there}, {9, 6, there}, {9, 7, there}});
    }

    /** '10 FIELD, CALL: the type of e is a class, and nothing is found.' */
    private static void error10() {
        ProductLineChecker x = withClasses(1);
        x.addClass(1, 0);
        x.addMethod(0, 0, INT, 1, NONE, 0, 0);
        x.addField(1, 0, INT, 0, 0);
        x.addMethod(1, 1, INT, NONE, NONE, 0, 4);
        x.addArgument(0, 0);
        x.addFieldOf(0, 0);
        x.addCall(0, 1, NONE, NONE);
        x.addFieldOf(0, 1);
        x.addCall(0, 0, NONE, NONE);
        x.setCondition(2, 1, 1, 0);
        x.setCondition(2, 2, 1, 4);
        areErrors("nothing in a class that is not there, or of another sort", x, new int[][] {
            {5, 0, ALL & ~WITH_0}, {10, 1, ALL & ~WITH_0}, {10, 2, ALL & ~WITH_0 | WITH_2}, {10, 3, ALL}, {10, 4, ALL}});
    }

    /** '11 CALL: a method is found, and the number of arguments is not that of its parameters' */
    private static void error11OfNumbers() {
        for (int parameters = 0; parameters <= 2; parameters++) {
            for (int arguments = 0; arguments <= 2; arguments++) {
                ProductLineChecker x = withClasses(1);
                x.addMethod(0, 0, INT, parameters > 0 ? INT : NONE, parameters > 1 ? INT : NONE, 0, 8);
                x.addPlain(0, true);
                x.addPlain(0, false);
                int e = x.addCall(0, 0, arguments > 0 ? 1 : NONE, arguments > 1 ? 1 : NONE);
                boolean isError = parameters != arguments;
                areErrors(arguments + " arguments for " + parameters, x, oneIf(isError, 11, e, ALL & ~WITH_3));
                due.is("type with " + arguments + " for " + parameters, x.typeOf(e, 0), isError ? -1 : INT);
            }
        }
    }

    /** 'or the type of an argument does not fit that of the parameter' */
    private static void error11OfTypes() {
        for (int type = 0; type <= 4; type++) {
            for (int other = 0; other <= 4; other++) {
                ProductLineChecker x = chain();
                int parameter = other == 4 ? INT : other;
                x.addMethod(0, 0, INT, type == 4 ? INT : type, NONE, 0, 0);
                x.addMethod(0, 1, INT, parameter, INT, 0, 0);
                x.addMethod(0, 2, INT, INT, parameter, 0, 0);
                x.addPlain(0, true);
                x.addArgument(0, 0);
                x.addPlain(0, false);
                x.addCall(0, 1, 1, 2);
                x.addCall(0, 2, 2, 1);
                boolean fits = type == other || type < other && other <= 2;
                areErrors("argument " + type + " for " + other, x,
                        fits ? NO_ERRORS : new int[][] {{11, 3, ALL}, {11, 4, ALL}});
            }
        }
    }

    /** '12 a result: it is there, its expression has a type, and that does not fit the type of its method.' */
    private static void error12() {
        ProductLineChecker x = withClasses(1);
        x.addClass(1, 0);
        x.addMethod(0, 0, INT, NONE, NONE, 0, 2);
        x.addNew(0, 1);
        x.addPlain(0, false);
        x.addResult(0, 0, 4);
        x.addResult(1, 0, 0);
        areErrors("a result that is there, with and without a type", x, new int[][] {
            {8, 0, ALL & ~WITH_0 & ~WITH_1}, {12, 0, WITH_0 & ~WITH_1 & ~WITH_2}});
        x.dropResult();
        x.dropResult();
        areErrors("without results", x, new int[][] {{8, 0, ALL & ~WITH_0 & ~WITH_1}});
    }

    /** 'an error of an expression only if its method is there, and all its parts have types' */
    private static void errorsOfPartsWithoutType() {
        ProductLineChecker x = withClasses(1);
        x.addMethod(0, 0, INT, NONE, NONE, 0, 0);
        x.addPlain(0, true);
        x.addPlain(0, false);
        x.addFieldOf(1, 0);
        x.addFieldOf(2, 0);
        x.addCall(2, 0, NONE, NONE);
        x.addCall(1, 0, 2, NONE);
        x.addCall(1, 0, 1, 2);
        x.addCall(0, 9, 2, NONE);
        x.addCall(0, 9, 1, 2);
        x.addCall(0, 0, 2, NONE);
        x.addCall(0, 0, 0, 2);
        x.addResult(2, 0, 0);
        x.addResult(4, 0, 0);
        areErrors("one error, and parts without a type in each that follows", x, new int[][] {{9, 2, ALL}});
        for (int e = 3; e <= 10; e++) {
            due.is("type of " + e + " with a part without a type", x.typeOf(e, 0), -1);
        }
    }

    /** 'All errors of a kind at the same element are one error, with the set of the products in which it happens' */
    private static void sameElementIsOneError() {
        ProductLineChecker x = withClasses(1);
        x.addClass(1, 0);
        x.addClass(2, 0);
        x.addMethod(0, 0, 1, 1, 2, 0, 0);
        areErrors("three missing types of a member", x, new int[][] {{5, 0, ALL & ~(WITH_0 & WITH_1)}});
        due.is("errorsIn a product with three missing types", x.errorsIn(0), 1);
        x.addLink(0, 0, 0, 0);
        x.addLink(0, 1, 0, 0);
        x.addLink(0, 2, 0, 0);
        areErrors("several kinds at the same class", x, new int[][] {{1, 1, ALL & ~WITH_0}, {1, 2, ALL & ~WITH_1},
            {2, 0, WITH_0 | WITH_1}, {3, 0, ALL}, {5, 0, ALL & ~(WITH_0 & WITH_1)}});
        due.is("errorsIn with no feature", x.errorsIn(0), 4);
        due.is("errorsIn with one feature", x.errorsIn(1), 4);
        due.is("errorsIn with two features", x.errorsIn(3), 2);
    }

    /** 'errors that happen in no product do not count' */
    private static void errorsInNoProduct() {
        ProductLineChecker x = withClasses(2);
        x.addLink(0, 0, 1, 0);
        x.addLink(1, 1, 0, 1);
        areErrors("two errors", x, new int[][] {{3, 0, WITH_0}, {3, 1, ALL & ~WITH_0}});
        x.addRule(1, 0, 0);
        areErrors("the first happens in no product", x, new int[][] {{3, 1, ALL & ~WITH_0}});
        due.is("right when all products are wrong", x.right(), 0);
        x.setCondition(1, 1, 1, 0);
        areErrors("none happens in a product", x, NO_ERRORS);
        due.is("right when no product is wrong", x.right(), ALL & ~WITH_0);
        due.is("culprit when no product is wrong", x.culprit(), -1);
        due.is("share when no product is wrong", x.share(), 1.0);
        x.dropRule();
        areErrors("they happen again", x, new int[][] {{3, 0, WITH_0}, {3, 1, WITH_0}});
    }

    /** 'They are numbered from 0 in ascending order of their kinds, then of the numbers of the elements.' */
    private static void orderOfErrors() {
        ProductLineChecker x = withClasses(1);
        x.addClass(8, 0);
        x.addMethod(0, 0, INT, INT, NONE, 0, 0);
        x.addPlain(0, true);
        x.addFieldOf(0, 0);
        x.addCall(0, 0, NONE, NONE);
        x.addFieldOf(0, 1);
        x.addNew(0, 1);
        x.addArgument(0, 0);
        x.addFieldOf(5, 1);
        x.addResult(0, 0, 0);
        x.addMethod(1, 0, INT, 1, NONE, 0, 0);
        x.addField(0, 0, 1, 1, 0);
        x.addMethod(0, 0, 0, NONE, NONE, 2, 0);
        x.addLink(0, 1, 0, 0);
        x.addLink(0, 0, 4, 0);
        x.addLink(1, 0, 0, 0);
        due.is("number of errors", x.errorCount(), 16);
        int[] kinds = {1, 2, 3, 3, 4, 5, 6, 7, 7, 7, 8, 9, 10, 10, 11, 12};
        int[] elements = {0, 0, 0, 1, 1, 2, 3, 0, 1, 3, 4, 6, 1, 3, 2, 0};
        for (int error = 0; error < 16; error++) {
            due.is("kind of error " + error, x.error(error, 0), kinds[error]);
            due.is("element of error " + error, x.error(error, 1), elements[error]);
        }
    }

    /** Errors of the last elements of all sorts at once, and of as many as there can be. */
    private static void mostErrors() {
        ProductLineChecker x = withClasses(8);
        for (int link = 0; link < 12; link++) {
            x.addLink(link % 6, link % 6, 0, 0);
        }
        for (int member = 0; member < 24; member++) {
            x.addMethod(0, 0, member == 0 ? 7 : INT, NONE, NONE, 0, 0);
        }
        for (int e = 0; e < 50; e++) {
            x.addNew(e % 23 + 1, 7);
        }
        for (int result = 0; result < 16; result++) {
            x.addResult(49, 0, 0);
        }
        x.setCondition(0, 7, 1, 0);
        due.is("number of errors", x.errorCount(), 6 + 6 + 1 + 23 + 23 + 50 + 16);
        due.is("errorsIn without feature 0", x.errorsIn(0), 6 + 6 + 1 + 23 + 23 + 50);
        due.is("errorsIn with feature 0", x.errorsIn(1), 6 + 6 + 23 + 23 + 16);
        int[][] wanted = {{0, 2, 0, ALL}, {6, 3, 0, ALL}, {12, 5, 0, ALL & ~WITH_0}, {13, 6, 1, ALL}, {36, 7, 1, ALL},
            {58, 7, 23, ALL}, {59, 8, 0, ALL & ~WITH_0}, {108, 8, 49, ALL & ~WITH_0}, {109, 12, 0, WITH_0},
            {124, 12, 15, WITH_0}};
        for (int[] error : wanted) {
            for (int what = 0; what <= 2; what++) {
                due.is("error " + error[0] + " of many, " + what, x.error(error[0], what), error[1 + what]);
            }
        }
        due.throwing("error behind the last", IndexOutOfBoundsException.class, x, () -> x.error(125, 0));
    }

    /** What each question of 'all products' answers does not hang on another one that was asked before. */
    private static void everyQuestionAsTheFirst() {
        due.is("errorCount first", wrongWith(3, 0).errorCount(), 1);
        due.is("error first", wrongWith(3, 0).error(0, 2), WITH_0 & WITH_1);
        due.is("right first", wrongWith(3, 0).right(), ALL & ~(WITH_0 & WITH_1));
        due.is("errorsIn first", wrongWith(3, 0).errorsIn(3), 1);
        due.is("culprit first", wrongWith(3, 0).culprit(), 16 * 3);
        due.is("share first", wrongWith(3, 0).share(), 0.75);
        ProductLineChecker twin = wrongWith(3, 0);
        twin.errorCount();
        due.is("digest first", wrongWith(3, 0).digest(), twin.digest());
    }

    private static void everyQuestionAfterAChange() {
        for (int question = 0; question <= 6; question++) {
            ProductLineChecker x = wrongWith(3, 0);
            ProductLineChecker wanted = wrongWith(0, 4);
            String told = "question " + question;
            due.is(told + " before", asked(x, question), asked(wrongWith(3, 0), question));
            x.setCondition(1, 0, 0, 4);
            due.is(told + " after a condition", asked(x, question), asked(wanted, question));
            x.addRule(1, 3, 3);
            wanted.addRule(1, 3, 3);
            due.is(told + " after a rule", asked(x, question), asked(wanted, question));
            x.dropRule();
            wanted = wrongWith(0, 4);
            due.is(told + " after a rule less", asked(x, question), asked(wanted, question));
            x.addLink(0, 0, 1, 0);
            due.is(told + " after a link", asked(x, question), asked(wrongWith(0, 4, 1, 0), question));
        }
    }

    private static double asked(ProductLineChecker x, int question) {
        switch (question) {
            case 0: return x.errorCount();
            case 1: return x.error(0, 2);
            case 2: return x.right();
            case 3: return x.errorsIn(3);
            case 4: return x.culprit();
            case 5: return x.share();
            default: return x.digest() % 1000003;
        }
    }

    /** A program whose products with one of these conditions (each an on and an off) are wrong. */
    private static ProductLineChecker wrongWith(int... conditions) {
        ProductLineChecker x = withClasses(1);
        for (int at = 0; at < conditions.length; at += 2) {
            x.addLink(0, 0, conditions[at], conditions[at + 1]);
        }
        return x;
    }

    /** 'true for at least one product, and for no product without errors, with as few features .. as can be' */
    private static void culpritOfOneCondition() {
        due.is("culprit of no error", wrongWith().culprit(), -1);
        for (int told = 0; told <= 255; told++) {
            if ((told / 16 & told % 16) == 0) {
                due.is("culprit of the condition " + told, wrongWith(told / 16, told % 16).culprit(), told);
            }
        }
    }

    /** 'of several the one for which 16 * on + off is least' */
    private static void culpritOfSeveral() {
        due.is("on 1 or on 2", wrongWith(1, 0, 2, 0).culprit(), 16);
        due.is("on 1 or off 8", wrongWith(1, 0, 0, 8).culprit(), 8);
        due.is("off 2 or off 1", wrongWith(0, 2, 0, 1).culprit(), 1);
        due.is("on 8 or off 1 and 2", wrongWith(0, 3, 8, 0).culprit(), 16 * 8);
        due.is("on 1 and 2, or on 1 off 2: on 1", wrongWith(3, 0, 1, 2).culprit(), 16);
        due.is("on 1, or off 1: all", wrongWith(1, 0, 0, 1).culprit(), 0);
        due.is("on 3, or on 1 off 4", wrongWith(3, 0, 1, 4).culprit(), 16 + 4);
        due.is("on 1 off 4, or off 6", wrongWith(1, 4, 0, 6).culprit(), 6);
        due.is("all on, or all off", wrongWith(15, 0, 0, 15).culprit(), 15);
        due.is("all on, or all but one", wrongWith(15, 0, 14, 1).culprit(), 16 * 14);
    }

    /** A condition that is true for no product is no culprit; one that rules make as good as another is. */
    private static void culpritThatIsTrueForAProduct() {
        ProductLineChecker none = wrongWith(1, 0);
        none.addRule(1, 0, 0);
        due.is("no wrong product, and a condition true for none", none.culprit(), -1);
        ProductLineChecker other = wrongWith(8, 6);
        other.addRule(1, 0, 0);
        due.is("a condition true for none, with fewer features", other.culprit(), 16 * 8 + 6);
        ProductLineChecker required = wrongWith(3, 0);
        required.addRule(0, 1, 0);
        due.is("on 2 requires 1", required.culprit(), 16 * 2);
        ProductLineChecker all = wrongWith(0, 1);
        all.addRule(1, 0, 0);
        due.is("all products are wrong", all.culprit(), 0);
        ProductLineChecker excluded = wrongWith(4, 8);
        excluded.addRule(1, 2, 3);
        due.is("on 4 excludes 8", excluded.culprit(), 16 * 4);
    }
}

/** The checkers that tests of edges start from; each call makes a new one. */
enum State {
    /** Nothing is there yet. */
    EMPTY {
        ProductLineChecker make() {
            return new ProductLineChecker();
        }
    },

    /**
     * Something of each sort, and no sort full. The products are 0 to 7. There are 3 classes, 2 links,
     * members 0 and 2 and 3 as methods with 2, 1 and 0 parameters, member 1 as a field,
     * expressions 0, 1 and 3 of method 0 and expression 2 of method 2, and 2 results.
     */
    SOME {
        ProductLineChecker make() {
            ProductLineChecker x = new ProductLineChecker();
            x.addRule(1, 3, 3);
            x.addClass(0, 0);
            x.addClass(1, 0);
            x.addClass(0, 2);
            x.addLink(1, 0, 0, 0);
            x.addLink(2, 0, 1, 0);
            x.addMethod(0, 0, 8, 8, 1, 0, 0);
            x.addField(0, 0, 1, 0, 0);
            x.addMethod(1, 1, 2, 0, -1, 0, 4);
            x.addMethod(2, 2, 8, -1, -1, 0, 0);
            x.addPlain(0, true);
            x.addPlain(0, false);
            x.addPlain(2, true);
            x.addNew(0, 1);
            x.addResult(1, 0, 0);
            x.addResult(0, 1, 0);
            return x;
        }
    },

    /** As SOME, but with 8 rules: REQUIRE 0 0 seven times behind the first one. */
    FULL_OF_RULES {
        ProductLineChecker make() {
            ProductLineChecker x = SOME.make();
            for (int rules = 1; rules < 8; rules++) {
                x.addRule(0, 0, 0);
            }
            return x;
        }
    },

    /** As SOME, but with 8 classes. */
    FULL_OF_CLASSES {
        ProductLineChecker make() {
            ProductLineChecker x = SOME.make();
            for (int classes = 3; classes < 8; classes++) {
                x.addClass(0, 1);
            }
            return x;
        }
    },

    /** As SOME, but with 12 links. */
    FULL_OF_LINKS {
        ProductLineChecker make() {
            ProductLineChecker x = SOME.make();
            for (int links = 2; links < 12; links++) {
                x.addLink(2, 1, 0, 4);
            }
            return x;
        }
    },

    /** As SOME, but with 24 members: fields and methods by turns. */
    FULL_OF_MEMBERS {
        ProductLineChecker make() {
            ProductLineChecker x = SOME.make();
            for (int members = 4; members < 24; members++) {
                if (members % 2 == 0) {
                    x.addField(2, members % 10, 8, 0, 1);
                } else {
                    x.addMethod(2, members % 10, 8, 8, -1, 0, 1);
                }
            }
            return x;
        }
    },

    /** As SOME, but with 50 expressions. */
    FULL_OF_EXPRESSIONS {
        ProductLineChecker make() {
            ProductLineChecker x = SOME.make();
            for (int expressions = 4; expressions < 50; expressions++) {
                x.addFieldOf(expressions - 1, 0);
            }
            return x;
        }
    },

    /** As SOME, but with 16 results. */
    FULL_OF_RESULTS {
        ProductLineChecker make() {
            ProductLineChecker x = SOME.make();
            for (int results = 2; results < 16; results++) {
                x.addResult(0, 0, 1);
            }
            return x;
        }
    },

    /** All sorts are full: all that is there is there in all products, 0 and 1. */
    FULL {
        ProductLineChecker make() {
            ProductLineChecker x = new ProductLineChecker();
            for (int rules = 0; rules < 8; rules++) {
                x.addRule(1, rules % 3 + 1, rules % 3 + 1);
            }
            for (int classes = 0; classes < 8; classes++) {
                x.addClass(0, 0);
            }
            for (int links = 0; links < 12; links++) {
                x.addLink(links % 8, links % 7, 0, 0);
            }
            for (int members = 0; members < 24; members++) {
                x.addMethod(members % 8, members % 10, members % 9, members % 9, 7, 0, 0);
            }
            for (int expressions = 0; expressions < 50; expressions++) {
                x.addNew(expressions % 24, expressions % 8);
            }
            for (int results = 0; results < 16; results++) {
                x.addResult(49 - results, 0, 0);
            }
            return x;
        }
    };

    abstract ProductLineChecker make();
}

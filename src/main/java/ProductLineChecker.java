/**
 * A type checker for product lines: it checks all products of a program at once.
 *
 * Sets (of features, configurations, elements or classes) are told as sums of powers of two.
 * All rows are made with the checker; no call makes an object, but for the exceptions.
 */
public final class ProductLineChecker {
    private static final int NONE = -1;
    private static final int METHOD_NOT_THERE = -2;
    private static final int INT = 8;
    private static final int BITS = 32;

    private static final int FEATURES = 4;
    private static final int CONFIGURATIONS = 16;
    private static final int NAMES = 10;
    private static final int MAX_RULES = 8;
    private static final int MAX_CLASSES = 8;
    private static final int MAX_LINKS = 12;
    private static final int MAX_MEMBERS = 24;
    private static final int MAX_RESULTS = 16;
    private static final int MAX_EXPRESSIONS = 50;

    private static final int REQUIRE = 0;
    private static final int EXCLUDE = 1;

    private static final int CLASS = 0;
    private static final int LINK = 1;
    private static final int MEMBER = 2;
    private static final int RESULT = 3;
    private static final int EXPRESSION = 4;
    private static final int SORTS_WITH_CONDITION = 4;

    private static final int FIELD = 0;
    private static final int METHOD = 1;
    private static final int MEMBER_SORTS = 2;

    private static final int OF_NEW = 0;
    private static final int OF_NUMBER = 1;
    private static final int OF_SELF = 2;
    private static final int OF_ARGUMENT = 3;
    private static final int OF_FIELD = 4;
    private static final int OF_CALL = 5;

    private static final int NO_ERROR = 0;
    private static final int LINK_WITHOUT_PARENT = 1;
    private static final int CLASS_WITH_MANY_LINKS = 2;
    private static final int CLASS_BELOW_ITSELF = 3;
    private static final int MEMBER_WITHOUT_CLASS = 4;
    private static final int MEMBER_OF_MISSING_TYPE = 5;
    private static final int MEMBER_TWICE = 6;
    private static final int METHOD_UNLIKE_INHERITED = 7;
    private static final int NEW_OF_MISSING_CLASS = 8;
    private static final int USE_OF_INT = 9;
    private static final int NOTHING_FOUND = 10;
    private static final int ARGUMENTS_DO_NOT_FIT = 11;
    private static final int RESULT_DOES_NOT_FIT = 12;
    private static final int ERROR_KINDS = 12;

    private static final int DIGEST_START = 149;
    private static final int DIGEST_FACTOR = 31;

    private final Rules rules;
    private final Program program;
    private final View view;
    private final Inspector inspector;

    public ProductLineChecker() {
        rules = new Rules();
        program = new Program();
        view = new View(program);
        inspector = new Inspector(program, view);
    }

    // ---- products

    public int addRule(int kind, int f, int g) throws IllegalArgumentException, IllegalStateException {
        if ((kind != REQUIRE && kind != EXCLUDE) || !isFeature(f) || !isFeature(g)) {
            throw new IllegalArgumentException("no such kind of rule, or no such feature");
        }
        if (rules.size() >= MAX_RULES) {
            throw new IllegalStateException("there are 8 rules");
        }
        rules.append(kind, f, g);
        return rules.size();
    }

    public int dropRule() throws IllegalStateException {
        if (rules.size() == 0) {
            throw new IllegalStateException("there is no rule");
        }
        rules.dropLast();
        return rules.size();
    }

    public int products() {
        return rules.allowed();
    }

    // ---- program

    public int addClass(int on, int off) throws IllegalArgumentException, IllegalStateException {
        if (!isCondition(on, off)) {
            throw new IllegalArgumentException("no condition");
        }
        if (program.classes.size() >= MAX_CLASSES) {
            throw new IllegalStateException("there are 8 classes");
        }
        return program.classes.append(on, off);
    }

    public int addLink(int of, int parent, int on, int off)
            throws IndexOutOfBoundsException, IllegalArgumentException, IllegalStateException {
        if (!program.classes.has(of) || !program.classes.has(parent)) {
            throw new IndexOutOfBoundsException("no such class");
        }
        if (!isCondition(on, off)) {
            throw new IllegalArgumentException("no condition");
        }
        if (program.links.size() >= MAX_LINKS) {
            throw new IllegalStateException("there are 12 links");
        }
        return program.appendLink(of, parent, on, off);
    }

    public int addField(int of, int name, int type, int on, int off)
            throws IndexOutOfBoundsException, IllegalArgumentException, IllegalStateException {
        if (!program.classes.has(of)) {
            throw new IndexOutOfBoundsException("no such class");
        }
        if (!isName(name) || !program.hasType(type) || !isCondition(on, off)) {
            throw new IllegalArgumentException("no name, no type, or no condition");
        }
        if (program.members.size() >= MAX_MEMBERS) {
            throw new IllegalStateException("there are 24 members");
        }
        int number = program.members.append(FIELD, of, name, on, off);
        program.members.setTypes(number, type, NONE, NONE);
        return number;
    }

    public int addMethod(int of, int name, int type, int first, int second, int on, int off)
            throws IndexOutOfBoundsException, IllegalArgumentException, IllegalStateException {
        if (!program.classes.has(of)) {
            throw new IndexOutOfBoundsException("no such class");
        }
        if (!isName(name) || !program.hasType(type) || !program.hasParameters(first, second)
                || !isCondition(on, off)) {
            throw new IllegalArgumentException("no name, no type, or no condition");
        }
        if (program.members.size() >= MAX_MEMBERS) {
            throw new IllegalStateException("there are 24 members");
        }
        int number = program.members.append(METHOD, of, name, on, off);
        program.members.setTypes(number, type, first, second);
        return number;
    }

    public int addNew(int method, int made) throws IndexOutOfBoundsException, IllegalStateException {
        if (!program.members.hasMethod(method) || !program.classes.has(made)) {
            throw new IndexOutOfBoundsException("no such method, or no such class");
        }
        if (program.expressions.size() >= MAX_EXPRESSIONS) {
            throw new IllegalStateException("there are 50 expressions");
        }
        return program.expressions.append(OF_NEW, method, made);
    }

    public int addPlain(int method, boolean isSelf) throws IndexOutOfBoundsException, IllegalStateException {
        if (!program.members.hasMethod(method)) {
            throw new IndexOutOfBoundsException("no such method");
        }
        if (program.expressions.size() >= MAX_EXPRESSIONS) {
            throw new IllegalStateException("there are 50 expressions");
        }
        return program.expressions.append(isSelf ? OF_SELF : OF_NUMBER, method, NONE);
    }

    public int addArgument(int method, int index) throws IndexOutOfBoundsException, IllegalStateException {
        if (!program.members.hasMethod(method) || program.members.parameter(method, index) == NONE) {
            throw new IndexOutOfBoundsException("no such method, or no such parameter");
        }
        if (program.expressions.size() >= MAX_EXPRESSIONS) {
            throw new IllegalStateException("there are 50 expressions");
        }
        return program.expressions.append(OF_ARGUMENT, method, index);
    }

    public int addFieldOf(int e, int name)
            throws IndexOutOfBoundsException, IllegalArgumentException, IllegalStateException {
        if (!program.expressions.has(e)) {
            throw new IndexOutOfBoundsException("no such expression");
        }
        if (!isName(name)) {
            throw new IllegalArgumentException("no name");
        }
        if (program.expressions.size() >= MAX_EXPRESSIONS) {
            throw new IllegalStateException("there are 50 expressions");
        }
        int number = program.expressions.append(OF_FIELD, program.expressions.method(e), name);
        program.expressions.setParts(number, e, NONE, NONE);
        return number;
    }

    public int addCall(int e, int name, int first, int second)
            throws IndexOutOfBoundsException, IllegalArgumentException, IllegalStateException {
        if (!program.expressions.has(e) || !program.expressions.hasOrNone(first)
                || !program.expressions.hasOrNone(second)) {
            throw new IndexOutOfBoundsException("no such expression");
        }
        if (!isName(name) || (first == NONE && second != NONE)
                || !program.expressions.areTogether(e, first) || !program.expressions.areTogether(e, second)) {
            throw new IllegalArgumentException("no name, or no arguments for this call");
        }
        if (program.expressions.size() >= MAX_EXPRESSIONS) {
            throw new IllegalStateException("there are 50 expressions");
        }
        int number = program.expressions.append(OF_CALL, program.expressions.method(e), name);
        program.expressions.setParts(number, e, first, second);
        return number;
    }

    public int addResult(int e, int on, int off)
            throws IndexOutOfBoundsException, IllegalArgumentException, IllegalStateException {
        if (!program.expressions.has(e)) {
            throw new IndexOutOfBoundsException("no such expression");
        }
        if (!isCondition(on, off)) {
            throw new IllegalArgumentException("no condition");
        }
        if (program.results.size() >= MAX_RESULTS) {
            throw new IllegalStateException("there are 16 results");
        }
        return program.appendResult(e, on, off);
    }

    public boolean setCondition(int sort, int number, int on, int off)
            throws IndexOutOfBoundsException, IllegalArgumentException {
        if (!program.hasElement(sort, number)) {
            throw new IndexOutOfBoundsException("no such element");
        }
        if (!isCondition(on, off)) {
            throw new IllegalArgumentException("no condition");
        }
        return program.conditions(sort).change(number, on, off);
    }

    public int dropResult() throws IllegalStateException {
        if (program.results.size() == 0) {
            throw new IllegalStateException("there is no result");
        }
        program.results.dropLast();
        return program.results.size();
    }

    public int count(int sort) throws IndexOutOfBoundsException {
        if (sort < CLASS || sort > EXPRESSION) {
            throw new IndexOutOfBoundsException("no such sort");
        }
        return program.size(sort);
    }

    // ---- one product

    public int presence(int sort, int number) throws IndexOutOfBoundsException {
        if (!program.hasElement(sort, number)) {
            throw new IndexOutOfBoundsException("no such element");
        }
        return program.whereThere(sort, number) & products();
    }

    public int parent(int of, int configuration) throws IndexOutOfBoundsException, IllegalArgumentException {
        if (!program.classes.has(of)) {
            throw new IndexOutOfBoundsException("no such class");
        }
        if (!isProduct(configuration)) {
            throw new IllegalArgumentException("no product");
        }
        view.look(configuration);
        return view.parentOf(of);
    }

    public boolean isBelow(int a, int b, int configuration)
            throws IndexOutOfBoundsException, IllegalArgumentException {
        if (!program.classes.has(a) || !program.classes.has(b)) {
            throw new IndexOutOfBoundsException("no such class");
        }
        if (!isProduct(configuration)) {
            throw new IllegalArgumentException("no product");
        }
        view.look(configuration);
        return view.isUnder(a, b);
    }

    public int find(int of, int name, boolean isMethod, int configuration)
            throws IndexOutOfBoundsException, IllegalArgumentException {
        if (!program.classes.has(of)) {
            throw new IndexOutOfBoundsException("no such class");
        }
        if (!isName(name) || !isProduct(configuration)) {
            throw new IllegalArgumentException("no name, or no product");
        }
        view.look(configuration);
        return view.lookUp(of, name, isMethod ? METHOD : FIELD);
    }

    public int typeOf(int e, int configuration) throws IndexOutOfBoundsException, IllegalArgumentException {
        if (!program.expressions.has(e)) {
            throw new IndexOutOfBoundsException("no such expression");
        }
        if (!isProduct(configuration)) {
            throw new IllegalArgumentException("no product");
        }
        view.look(configuration);
        view.giveTypes();
        return view.typeIn(e, configuration);
    }

    // ---- all products

    public int errorCount() {
        inspector.inspect(products());
        return inspector.size();
    }

    public int error(int error, int what) throws IndexOutOfBoundsException {
        inspector.inspect(products());
        if (error < 0 || error >= inspector.size() || what < 0 || what > 2) {
            throw new IndexOutOfBoundsException("no such error, or nothing that is told of it");
        }
        return what == 0 ? inspector.kindOf(error)
                : what == 1 ? inspector.elementOf(error) : inspector.productsOf(error);
    }

    public int right() {
        int all = products();
        inspector.inspect(all);
        return all & ~inspector.wrongProducts();
    }

    public int errorsIn(int configuration) throws IllegalArgumentException {
        if (!isProduct(configuration)) {
            throw new IllegalArgumentException("no product");
        }
        inspector.inspect(products());
        return inspector.sizeIn(configuration);
    }

    public int culprit() {
        int all = products();
        inspector.inspect(all);
        int rightOnes = all & ~inspector.wrongProducts();
        int best = NONE;
        int fewest = 2 * FEATURES + 1;
        for (int on = 0; on < CONFIGURATIONS; on++) {
            for (int off = 0; off < CONFIGURATIONS; off++) {
                int products = configurationsWith(on, off) & all;
                int features = Integer.bitCount(on) + Integer.bitCount(off);
                if (products != 0 && (products & rightOnes) == 0 && features < fewest) {
                    best = CONFIGURATIONS * on + off;
                    fewest = features;
                }
            }
        }
        return best;
    }

    public double share() {
        int all = products();
        inspector.inspect(all);
        int wrongOnes = Integer.bitCount(inspector.wrongProducts());
        int ones = Integer.bitCount(all);
        return ones == 0 ? 0.0 : (double) (ones - wrongOnes) / ones;
    }

    public long digest() {
        int all = products();
        inspector.inspect(all);
        long d = mix(DIGEST_START, all);
        for (int sort = CLASS; sort <= EXPRESSION; sort++) {
            d = mix(d, program.size(sort));
        }
        d = mixPresences(d, all);
        d = mix(d, inspector.size());
        for (int error = 0; error < inspector.size(); error++) {
            d = mix(d, inspector.kindOf(error));
            d = mix(d, inspector.elementOf(error));
            d = mix(d, inspector.productsOf(error));
        }
        return mixTypes(d, all);
    }

    private long mixPresences(long start, int all) {
        long d = start;
        for (int sort = CLASS; sort <= RESULT; sort++) {
            for (int number = 0; number < program.size(sort); number++) {
                d = mix(d, program.whereThere(sort, number) & all);
            }
        }
        return d;
    }

    /** Needs the types that an inspection of all products has left in the view. */
    private long mixTypes(long start, int all) {
        long d = start;
        for (int e = 0; e < program.expressions.size(); e++) {
            for (int configuration = 0; configuration < CONFIGURATIONS; configuration++) {
                if (isIn(all, configuration)) {
                    d = mix(d, view.typeIn(e, configuration));
                }
            }
        }
        return d;
    }

    private boolean isProduct(int configuration) {
        return isIn(rules.allowed(), configuration);
    }

    private static long mix(long d, long x) {
        return d * DIGEST_FACTOR + x;
    }

    private static boolean isFeature(int f) {
        return f >= 0 && f < FEATURES;
    }

    private static boolean isName(int name) {
        return name >= 0 && name < NAMES;
    }

    private static boolean isCondition(int on, int off) {
        return on >= 0 && on < CONFIGURATIONS && off >= 0 && off < CONFIGURATIONS && (on & off) == 0;
    }

    /** Looks at the number first, as a shift by 32 or more would ask for another one. */
    private static boolean isIn(int set, int number) {
        return number >= 0 && number < BITS && (set >> number & 1) == 1;
    }

    /** The set of the configurations, products or not, for which a condition is true. */
    private static int configurationsWith(int on, int off) {
        int set = 0;
        for (int configuration = 0; configuration < CONFIGURATIONS; configuration++) {
            if ((configuration & on) == on && (configuration & off) == 0) {
                set |= 1 << configuration;
            }
        }
        return set;
    }

    /** Numbers in a row, where an index outside of it reads NONE and writes nothing. */
    private static final class Row {
        private final int[] numbers;

        Row(int length) {
            numbers = new int[length < 0 ? 0 : length];
        }

        int at(int index) {
            return index >= 0 && index < numbers.length ? numbers[index] : NONE;
        }

        void put(int index, int number) {
            if (index >= 0 && index < numbers.length) {
                numbers[index] = number;
            }
        }

        void fill(int number) {
            for (int index = 0; index < numbers.length; index++) {
                numbers[index] = number;
            }
        }
    }

    /** The rules, and the configurations that keep them. */
    private static final class Rules {
        private final Row kinds = new Row(MAX_RULES);
        private final Row fs = new Row(MAX_RULES);
        private final Row gs = new Row(MAX_RULES);
        private int size = 0;

        int size() {
            return size;
        }

        void append(int kind, int f, int g) {
            kinds.put(size, kind);
            fs.put(size, f);
            gs.put(size, g);
            size++;
        }

        void dropLast() {
            size--;
        }

        int allowed() {
            int set = 0;
            for (int configuration = 0; configuration < CONFIGURATIONS; configuration++) {
                if (areKept(configuration)) {
                    set |= 1 << configuration;
                }
            }
            return set;
        }

        private boolean areKept(int configuration) {
            for (int rule = 0; rule < size; rule++) {
                boolean hasF = isIn(configuration, fs.at(rule));
                boolean hasG = isIn(configuration, gs.at(rule));
                if (hasF && hasG == (kinds.at(rule) == EXCLUDE)) {
                    return false;
                }
            }
            return true;
        }
    }

    /** The conditions of all elements of one sort. */
    private static final class Conditions {
        private final Row ons;
        private final Row offs;
        private final Row wheres;
        private int size = 0;

        Conditions(int limit) {
            ons = new Row(limit);
            offs = new Row(limit);
            wheres = new Row(limit);
        }

        int size() {
            return size;
        }

        boolean has(int number) {
            return number >= 0 && number < size;
        }

        int append(int on, int off) {
            int number = size;
            size++;
            put(number, on, off);
            return number;
        }

        boolean change(int number, int on, int off) {
            boolean isAnother = ons.at(number) != on || offs.at(number) != off;
            put(number, on, off);
            return isAnother;
        }

        void dropLast() {
            size--;
        }

        /** The set of the configurations, products or not, for which a condition is true. */
        int whereTrue(int number) {
            return wheres.at(number);
        }

        private void put(int number, int on, int off) {
            ons.put(number, on);
            offs.put(number, off);
            wheres.put(number, configurationsWith(on, off));
        }
    }

    /** The fields and methods; a parameter that is not there has the type NONE. */
    private static final class Members {
        final Conditions conditions = new Conditions(MAX_MEMBERS);
        private final Row sorts = new Row(MAX_MEMBERS);
        private final Row owners = new Row(MAX_MEMBERS);
        private final Row names = new Row(MAX_MEMBERS);
        private final Row types = new Row(MAX_MEMBERS);
        private final Row firsts = new Row(MAX_MEMBERS);
        private final Row seconds = new Row(MAX_MEMBERS);

        int size() {
            return conditions.size();
        }

        boolean hasMethod(int number) {
            return conditions.has(number) && sorts.at(number) == METHOD;
        }

        int append(int sort, int owner, int name, int on, int off) {
            int number = conditions.append(on, off);
            sorts.put(number, sort);
            owners.put(number, owner);
            names.put(number, name);
            return number;
        }

        void setTypes(int number, int type, int first, int second) {
            types.put(number, type);
            firsts.put(number, first);
            seconds.put(number, second);
        }

        int sort(int number) {
            return sorts.at(number);
        }

        int owner(int number) {
            return owners.at(number);
        }

        int name(int number) {
            return names.at(number);
        }

        int type(int number) {
            return types.at(number);
        }

        int parameter(int number, int index) {
            return index == 0 ? firsts.at(number) : index == 1 ? seconds.at(number) : NONE;
        }
    }

    /**
     * The expressions; a part that is not there is NONE. The detail is the class of a NEW, the
     * index of an ARGUMENT, the name of a FIELD or CALL.
     */
    private static final class Expressions {
        private final Row kinds = new Row(MAX_EXPRESSIONS);
        private final Row methods = new Row(MAX_EXPRESSIONS);
        private final Row details = new Row(MAX_EXPRESSIONS);
        private final Row objects = new Row(MAX_EXPRESSIONS);
        private final Row firsts = new Row(MAX_EXPRESSIONS);
        private final Row seconds = new Row(MAX_EXPRESSIONS);
        private int size = 0;

        int size() {
            return size;
        }

        boolean has(int number) {
            return number >= 0 && number < size;
        }

        boolean hasOrNone(int number) {
            return number == NONE || has(number);
        }

        boolean areTogether(int e, int argument) {
            return argument == NONE || methods.at(argument) == methods.at(e);
        }

        int append(int kind, int method, int detail) {
            int number = size;
            size++;
            kinds.put(number, kind);
            methods.put(number, method);
            details.put(number, detail);
            setParts(number, NONE, NONE, NONE);
            return number;
        }

        void setParts(int number, int object, int first, int second) {
            objects.put(number, object);
            firsts.put(number, first);
            seconds.put(number, second);
        }

        int kind(int number) {
            return kinds.at(number);
        }

        int method(int number) {
            return methods.at(number);
        }

        int detail(int number) {
            return details.at(number);
        }

        int object(int number) {
            return objects.at(number);
        }

        int first(int number) {
            return firsts.at(number);
        }

        int second(int number) {
            return seconds.at(number);
        }
    }

    /** All that has been added, as it stands for all products together. */
    private static final class Program {
        final Conditions classes = new Conditions(MAX_CLASSES);
        final Conditions links = new Conditions(MAX_LINKS);
        final Row linkClasses = new Row(MAX_LINKS);
        final Row linkParents = new Row(MAX_LINKS);
        final Members members = new Members();
        final Expressions expressions = new Expressions();
        final Conditions results = new Conditions(MAX_RESULTS);
        final Row resultExpressions = new Row(MAX_RESULTS);

        int appendLink(int of, int parent, int on, int off) {
            int number = links.append(on, off);
            linkClasses.put(number, of);
            linkParents.put(number, parent);
            return number;
        }

        int appendResult(int e, int on, int off) {
            int number = results.append(on, off);
            resultExpressions.put(number, e);
            return number;
        }

        Conditions conditions(int sort) {
            return sort == CLASS ? classes : sort == LINK ? links
                    : sort == MEMBER ? members.conditions : results;
        }

        int size(int sort) {
            return sort == EXPRESSION ? expressions.size() : conditions(sort).size();
        }

        boolean hasElement(int sort, int number) {
            return sort >= CLASS && sort <= RESULT && conditions(sort).has(number);
        }

        boolean hasType(int type) {
            return type == INT || classes.has(type);
        }

        boolean hasParameters(int first, int second) {
            if (first == NONE) {
                return second == NONE;
            }
            return hasType(first) && (second == NONE || hasType(second));
        }

        int resultMethod(int result) {
            return expressions.method(resultExpressions.at(result));
        }

        /** The set of the configurations, products or not, in which an element is there. */
        int whereThere(int sort, int number) {
            int set = conditions(sort).whereTrue(number);
            if (sort == LINK) {
                return set & classes.whereTrue(linkClasses.at(number))
                        & classes.whereTrue(linkParents.at(number));
            }
            if (sort == MEMBER) {
                return set & classes.whereTrue(members.owner(number));
            }
            if (sort == RESULT) {
                int method = resultMethod(number);
                return set & members.conditions.whereTrue(method)
                        & classes.whereTrue(members.owner(method));
            }
            return set;
        }
    }

    /** The program as it is in one product: the one that was looked at last. */
    private static final class View {
        private final Program program;
        private final Row there = new Row(SORTS_WITH_CONDITION);
        private final Row parents = new Row(MAX_CLASSES);
        private final Row ancestors = new Row(MAX_CLASSES);
        private final Row firstMembers = new Row(MAX_CLASSES * MEMBER_SORTS * NAMES);
        private final Row faults = new Row(MAX_EXPRESSIONS);
        private final Row types = new Row(CONFIGURATIONS * MAX_EXPRESSIONS);
        private int configuration = 0;

        View(Program program) {
            this.program = program;
        }

        void look(int product) {
            configuration = product;
            for (int sort = CLASS; sort <= RESULT; sort++) {
                lookForElements(sort);
            }
            lookForParents();
            lookForAncestors();
            lookForFirstMembers();
        }

        private void lookForElements(int sort) {
            int set = 0;
            for (int number = 0; number < program.size(sort); number++) {
                if (isIn(program.whereThere(sort, number), configuration)) {
                    set |= 1 << number;
                }
            }
            there.put(sort, set);
        }

        /** Goes backwards, so that of several the first one stays. */
        private void lookForParents() {
            parents.fill(NONE);
            for (int link = program.links.size() - 1; link >= 0; link--) {
                if (isThere(LINK, link)) {
                    parents.put(program.linkClasses.at(link), program.linkParents.at(link));
                }
            }
        }

        private void lookForAncestors() {
            for (int of = 0; of < MAX_CLASSES; of++) {
                int set = 0;
                int above = parents.at(of);
                for (int step = 0; step < MAX_CLASSES && above != NONE; step++) {
                    set |= 1 << above;
                    above = parents.at(above);
                }
                ancestors.put(of, set);
            }
        }

        /** Goes backwards, so that of several the first one stays. */
        private void lookForFirstMembers() {
            firstMembers.fill(NONE);
            for (int member = program.members.size() - 1; member >= 0; member--) {
                if (isThere(MEMBER, member)) {
                    firstMembers.put(placeOf(program.members.owner(member),
                            program.members.name(member), program.members.sort(member)), member);
                }
            }
        }

        boolean isThere(int sort, int number) {
            return isIn(there.at(sort), number);
        }

        boolean isConditionTrue(int sort, int number) {
            return isIn(program.conditions(sort).whereTrue(number), configuration);
        }

        int parentOf(int of) {
            return parents.at(of);
        }

        boolean isUnder(int a, int b) {
            return isIn(ancestors.at(a), b);
        }

        /** Whether there is another member with the same class, name and sort and a smaller number. */
        boolean isRepeated(int member) {
            return member != firstMembers.at(placeOf(program.members.owner(member),
                    program.members.name(member), program.members.sort(member)));
        }

        /** Asks at most as many classes as there are: in a ring it only asks in vain again. */
        int lookUp(int of, int name, int sort) {
            int asked = of;
            for (int step = 0; step < MAX_CLASSES && asked != NONE; step++) {
                int member = firstMembers.at(placeOf(asked, name, sort));
                if (member != NONE) {
                    return member;
                }
                asked = parents.at(asked);
            }
            return NONE;
        }

        boolean fits(int type, int other) {
            return type == other || (type != INT && other != INT && isIn(ancestors.at(type), other));
        }

        boolean isMissing(int type) {
            return type != NONE && type != INT && !isThere(CLASS, type);
        }

        /** Types and faults of all expressions; parts come first, as they have smaller numbers. */
        void giveTypes() {
            for (int e = 0; e < program.expressions.size(); e++) {
                int fault = NO_ERROR;
                int type = NONE;
                if (!isThere(MEMBER, program.expressions.method(e))) {
                    type = METHOD_NOT_THERE;
                } else if (havePartsTypes(e)) {
                    fault = findFault(e);
                    type = fault == NO_ERROR ? faultlessType(e) : NONE;
                }
                faults.put(e, fault);
                types.put(typePlace(e, configuration), type);
            }
        }

        int fault(int e) {
            return faults.at(e);
        }

        /** The type of an expression in a product for which types have been given. */
        int typeIn(int e, int product) {
            return types.at(typePlace(e, product));
        }

        private int typeHere(int e) {
            return types.at(typePlace(e, configuration));
        }

        private boolean havePartsTypes(int e) {
            return hasTypeOrIsNone(program.expressions.object(e))
                    && hasTypeOrIsNone(program.expressions.first(e))
                    && hasTypeOrIsNone(program.expressions.second(e));
        }

        private boolean hasTypeOrIsNone(int part) {
            return part == NONE || typeHere(part) >= 0;
        }

        private int findFault(int e) {
            int kind = program.expressions.kind(e);
            if (kind == OF_NEW) {
                return isThere(CLASS, program.expressions.detail(e)) ? NO_ERROR : NEW_OF_MISSING_CLASS;
            }
            if (kind != OF_FIELD && kind != OF_CALL) {
                return NO_ERROR;
            }
            if (typeHere(program.expressions.object(e)) == INT) {
                return USE_OF_INT;
            }
            int member = usedMember(e);
            if (member == NONE) {
                return NOTHING_FOUND;
            }
            return kind == OF_FIELD || doArgumentsFit(e, member) ? NO_ERROR : ARGUMENTS_DO_NOT_FIT;
        }

        /** What a FIELD or CALL of an object with a class as its type finds. */
        private int usedMember(int e) {
            int sort = program.expressions.kind(e) == OF_CALL ? METHOD : FIELD;
            return lookUp(typeHere(program.expressions.object(e)), program.expressions.detail(e), sort);
        }

        private boolean doArgumentsFit(int e, int method) {
            return doesArgumentFit(program.expressions.first(e), program.members.parameter(method, 0))
                    && doesArgumentFit(program.expressions.second(e), program.members.parameter(method, 1));
        }

        private boolean doesArgumentFit(int argument, int parameter) {
            if (argument == NONE || parameter == NONE) {
                return argument == parameter;
            }
            return fits(typeHere(argument), parameter);
        }

        private int faultlessType(int e) {
            int method = program.expressions.method(e);
            int detail = program.expressions.detail(e);
            switch (program.expressions.kind(e)) {
                case OF_NEW:
                    return detail;
                case OF_NUMBER:
                    return INT;
                case OF_SELF:
                    return program.members.owner(method);
                case OF_ARGUMENT:
                    return program.members.parameter(method, detail);
                default:
                    return program.members.type(usedMember(e));
            }
        }

        private static int placeOf(int of, int name, int sort) {
            return (of * MEMBER_SORTS + sort) * NAMES + name;
        }

        private static int typePlace(int e, int product) {
            return product * MAX_EXPRESSIONS + e;
        }
    }

    /** The errors of all products. No sort has more elements than there can be expressions. */
    private static final class Inspector {
        private final Program program;
        private final View view;
        private final Row sets = new Row(ERROR_KINDS * MAX_EXPRESSIONS);
        private final Row found = new Row(ERROR_KINDS * MAX_EXPRESSIONS);
        private int size = 0;

        Inspector(Program program, View view) {
            this.program = program;
            this.view = view;
        }

        void inspect(int products) {
            sets.fill(0);
            for (int configuration = 0; configuration < CONFIGURATIONS; configuration++) {
                if (isIn(products, configuration)) {
                    view.look(configuration);
                    view.giveTypes();
                    checkLinks(configuration);
                    checkClasses(configuration);
                    checkMembers(configuration);
                    checkExpressions(configuration);
                    checkResults(configuration);
                }
            }
            numberErrors();
        }

        int size() {
            return size;
        }

        int kindOf(int error) {
            return found.at(error) / MAX_EXPRESSIONS + 1;
        }

        int elementOf(int error) {
            return found.at(error) % MAX_EXPRESSIONS;
        }

        int productsOf(int error) {
            return sets.at(found.at(error));
        }

        int sizeIn(int configuration) {
            int errors = 0;
            for (int error = 0; error < size; error++) {
                if (isIn(productsOf(error), configuration)) {
                    errors++;
                }
            }
            return errors;
        }

        int wrongProducts() {
            int set = 0;
            for (int error = 0; error < size; error++) {
                set |= productsOf(error);
            }
            return set;
        }

        /** The places ascend with the kinds, then with the elements. */
        private void numberErrors() {
            size = 0;
            for (int place = 0; place < ERROR_KINDS * MAX_EXPRESSIONS; place++) {
                if (sets.at(place) != 0) {
                    found.put(size, place);
                    size++;
                }
            }
        }

        private void note(int kind, int element, int configuration) {
            int place = (kind - 1) * MAX_EXPRESSIONS + element;
            sets.put(place, sets.at(place) | 1 << configuration);
        }

        private void checkLinks(int configuration) {
            for (int link = 0; link < program.links.size(); link++) {
                if (view.isConditionTrue(LINK, link) && view.isThere(CLASS, program.linkClasses.at(link))
                        && !view.isThere(CLASS, program.linkParents.at(link))) {
                    note(LINK_WITHOUT_PARENT, link, configuration);
                }
            }
        }

        private void checkClasses(int configuration) {
            for (int of = 0; of < program.classes.size(); of++) {
                if (view.isThere(CLASS, of) && countLinks(of) > 1) {
                    note(CLASS_WITH_MANY_LINKS, of, configuration);
                }
                if (view.isThere(CLASS, of) && view.isUnder(of, of)) {
                    note(CLASS_BELOW_ITSELF, of, configuration);
                }
            }
        }

        private int countLinks(int of) {
            int links = 0;
            for (int link = 0; link < program.links.size(); link++) {
                if (view.isThere(LINK, link) && program.linkClasses.at(link) == of) {
                    links++;
                }
            }
            return links;
        }

        private void checkMembers(int configuration) {
            for (int member = 0; member < program.members.size(); member++) {
                if (view.isThere(MEMBER, member)) {
                    checkMember(member, configuration);
                } else if (view.isConditionTrue(MEMBER, member)) {
                    note(MEMBER_WITHOUT_CLASS, member, configuration);
                }
            }
        }

        private void checkMember(int member, int configuration) {
            if (view.isMissing(program.members.type(member))
                    || view.isMissing(program.members.parameter(member, 0))
                    || view.isMissing(program.members.parameter(member, 1))) {
                note(MEMBER_OF_MISSING_TYPE, member, configuration);
            }
            if (view.isRepeated(member)) {
                note(MEMBER_TWICE, member, configuration);
            }
            if (program.members.sort(member) == METHOD && isUnlikeInherited(member)) {
                note(METHOD_UNLIKE_INHERITED, member, configuration);
            }
        }

        private boolean isUnlikeInherited(int method) {
            int above = view.parentOf(program.members.owner(method));
            if (above == NONE) {
                return false;
            }
            int inherited = view.lookUp(above, program.members.name(method), METHOD);
            if (inherited == NONE || inherited == method) {
                return false;
            }
            return program.members.parameter(method, 0) != program.members.parameter(inherited, 0)
                    || program.members.parameter(method, 1) != program.members.parameter(inherited, 1)
                    || !view.fits(program.members.type(method), program.members.type(inherited));
        }

        private void checkExpressions(int configuration) {
            for (int e = 0; e < program.expressions.size(); e++) {
                if (view.fault(e) != NO_ERROR) {
                    note(view.fault(e), e, configuration);
                }
            }
        }

        private void checkResults(int configuration) {
            for (int result = 0; result < program.results.size(); result++) {
                int type = view.typeIn(program.resultExpressions.at(result), configuration);
                if (view.isThere(RESULT, result) && type >= 0
                        && !view.fits(type, program.members.type(program.resultMethod(result)))) {
                    note(RESULT_DOES_NOT_FIT, result, configuration);
                }
            }
        }
    }
}

import java.util.ArrayList;
import java.util.List;

/** Many made-up runs, each answer compared with that of the Model; the same runs every time. */
public final class ModelTest {
    private static final int RUNS = 400;
    private static final int CALLS = 512;
    private static final Class<?> INDEX = IndexOutOfBoundsException.class;
    private static final Class<?> ARGUMENT = IllegalArgumentException.class;
    private static final Class<?> STATE = IllegalStateException.class;

    private interface Answer {
        long get();
    }

    private static final Due due = new Due();
    private static final int[] kindsSeen = new int[13];
    private static long seed = 1;

    private static ProductLineChecker x;
    private static Model m;
    private static int strangeness;
    private static final List<Answer> changes = new ArrayList<>();
    private static boolean isChanging;
    private static int calls;

    public static void main(String[] args) {
        for (int run = 0; run < RUNS; run++) {
            begin();
            strangeness = run % 4 == 0 ? 10 : 0;
            int steps = 20 + any(180);
            for (int step = 0; step < steps; step++) {
                isChanging = true;
                change(run < 10 ? any(14) : weighted());
                isChanging = false;
                if (any(12) == 0) {
                    compareSome();
                }
            }
            compareAll();
        }
        for (int kind = 1; kind <= 12; kind++) {
            if (kindsSeen[kind] < 20) {
                due.fail("the runs have shown only " + kindsSeen[kind] + " errors of kind " + kind);
            }
        }
        due.end();
    }

    private static void begin() {
        x = new ProductLineChecker();
        m = new Model();
        changes.clear();
        calls = 0;
    }

    /** The document promises nothing after an object's last call: another one then goes on from the same state. */
    private static void countCall() {
        if (calls == CALLS) {
            x = new ProductLineChecker();
            for (Answer change : changes) {
                Due.thrownBy(() -> change.get());
            }
            calls = changes.size();
        }
        calls++;
    }

    /** A number from 0 to below the bound. */
    private static int any(int bound) {
        seed = seed * 6364136223846793005L + 1442695040888963407L;
        return (int) ((seed >>> 33) % bound);
    }

    /** Most often a number that there is; in some runs now and then another one. */
    private static int number(int size) {
        if (size == 0 || strangeness > 0 && any(strangeness) == 0) {
            int[] strange = {-1, -2, size, size + 1, Integer.MAX_VALUE, Integer.MIN_VALUE};
            return strange[any(strange.length)];
        }
        return any(size);
    }

    private static int type() {
        return any(4) == 0 ? 8 : number(m.classes.size());
    }

    private static int features() {
        return any(2) == 0 ? 0 : strangeness > 0 ? number(16) : 1 << any(4);
    }

    /** An off for this on that most often shares no feature with it. */
    private static int off(int on) {
        return strangeness > 0 && any(8) == 0 ? features() : features() & ~on;
    }

    private static int name() {
        return strangeness > 0 && any(strangeness) == 0 ? number(10) : any(3);
    }

    private static boolean isCondition(int on, int off) {
        return on >= 0 && on <= 15 && off >= 0 && off <= 15 && (on & off) == 0;
    }

    private static boolean isName(int name) {
        return name >= 0 && name <= 9;
    }

    private static boolean isType(int type) {
        return type == 8 || has(type, m.classes);
    }

    private static boolean has(int number, List<?> list) {
        return number >= 0 && number < list.size();
    }

    private static boolean isMethod(int number) {
        return has(number, m.members) && m.members.get(number).isMethod();
    }

    private static int weighted() {
        int[] kinds = {0, 1, 2, 2, 2, 3, 3, 3, 4, 4, 5, 5, 5, 6, 6, 7, 7, 8, 8, 9, 9, 9, 10, 10, 10, 10, 11, 11, 12, 12, 13};
        return kinds[any(kinds.length)];
    }

    private static void change(int kind) {
        switch (kind) {
            case 0: addRule(); break;
            case 1: dropRule(); break;
            case 2: addClass(); break;
            case 3: addLink(); break;
            case 4: addField(); break;
            case 5: addMethod(); break;
            case 6: addNew(); break;
            case 7: addPlain(); break;
            case 8: addArgument(); break;
            case 9: addFieldOf(); break;
            case 10: addCall(); break;
            case 11: addResult(); break;
            case 12: setCondition(); break;
            default: dropResult(); break;
        }
    }

    /** Compares a call that is to throw, or to answer; tells whether it is to answer. */
    private static boolean compare(String call, Class<?> wanted, long want, Answer answer) {
        countCall();
        if (isChanging) {
            changes.add(answer);
        }
        long[] got = new long[1];
        Class<?> thrown = Due.thrownBy(() -> got[0] = answer.get());
        if (thrown != wanted) {
            due.fail(call + " threw " + thrown + ", due is " + wanted);
        } else if (wanted == null) {
            due.is(call, got[0], want);
        }
        return wanted == null;
    }

    private static Class<?> first(boolean isIndex, boolean isArgument, boolean isState) {
        return isIndex ? INDEX : isArgument ? ARGUMENT : isState ? STATE : null;
    }

    private static void addRule() {
        int kind = strangeness > 0 ? number(2) : any(2);
        int f = strangeness > 0 ? number(4) : any(4);
        int g = strangeness > 0 ? number(4) : any(4);
        boolean isBad = kind < 0 || kind > 1 || f < 0 || f > 3 || g < 0 || g > 3;
        if (compare("addRule", first(false, isBad, m.rules.size() == 8), m.rules.size() + 1, () -> x.addRule(kind, f, g))) {
            m.rules.add(new Model.Rule(kind, f, g));
        }
    }

    private static void dropRule() {
        if (compare("dropRule", first(false, false, m.rules.isEmpty()), m.rules.size() - 1, () -> x.dropRule())) {
            m.rules.remove(m.rules.size() - 1);
        }
    }

    private static void addClass() {
        int on = features();
        int off = off(on);
        if (compare("addClass", first(false, !isCondition(on, off), m.classes.size() == 8), m.classes.size(),
                () -> x.addClass(on, off))) {
            m.classes.add(new Model.Condition(on, off));
        }
    }

    private static void addLink() {
        int of = number(m.classes.size());
        int parent = number(m.classes.size());
        int on = features();
        int off = off(on);
        boolean isNone = !has(of, m.classes) || !has(parent, m.classes);
        if (compare("addLink", first(isNone, !isCondition(on, off), m.links.size() == 12), m.links.size(),
                () -> x.addLink(of, parent, on, off))) {
            m.links.add(new Model.Condition(on, off));
            m.linkEnds.add(new Model.Link(of, parent));
        }
    }

    private static void addField() {
        int of = number(m.classes.size());
        int name = name();
        int type = type();
        int on = features();
        int off = off(on);
        boolean isBad = !isName(name) || !isType(type) || !isCondition(on, off);
        if (compare("addField", first(!has(of, m.classes), isBad, m.members.size() == 24), m.members.size(),
                () -> x.addField(of, name, type, on, off))) {
            m.memberConditions.add(new Model.Condition(on, off));
            m.members.add(new Model.Member(false, of, name, type, List.of()));
        }
    }

    private static void addMethod() {
        int of = number(m.classes.size());
        int name = name();
        int type = type();
        int first = any(2) == 0 ? -1 : type();
        int second = first == -1 && any(10) != 0 || any(2) == 0 ? -1 : type();
        int on = features();
        int off = off(on);
        boolean isBad = !isName(name) || !isType(type) || first != -1 && !isType(first)
                || second != -1 && !isType(second) || first == -1 && second != -1 || !isCondition(on, off);
        if (compare("addMethod", first(!has(of, m.classes), isBad, m.members.size() == 24), m.members.size(),
                () -> x.addMethod(of, name, type, first, second, on, off))) {
            m.memberConditions.add(new Model.Condition(on, off));
            m.members.add(new Model.Member(true, of, name, type, present(first, second)));
        }
    }

    private static List<Integer> present(int... numbers) {
        List<Integer> list = new ArrayList<>();
        for (int number : numbers) {
            if (number != -1) {
                list.add(number);
            }
        }
        return list;
    }

    private static void append(String kind, int method, int detail, List<Integer> parts) {
        m.expressions.add(new Model.Expression(kind, method, detail, parts));
    }

    private static void addNew() {
        int method = number(m.members.size());
        int made = number(m.classes.size());
        if (compare("addNew", first(!isMethod(method) || !has(made, m.classes), false, m.expressions.size() == 50),
                m.expressions.size(), () -> x.addNew(method, made))) {
            append("NEW", method, made, List.of());
        }
    }

    private static void addPlain() {
        int method = number(m.members.size());
        boolean isSelf = any(3) != 0;
        if (compare("addPlain", first(!isMethod(method), false, m.expressions.size() == 50), m.expressions.size(),
                () -> x.addPlain(method, isSelf))) {
            append(isSelf ? "SELF" : "NUMBER", method, 0, List.of());
        }
    }

    private static void addArgument() {
        int method = number(m.members.size());
        int index = strangeness > 0 ? number(2) : any(2);
        boolean isNone = !isMethod(method) || !has(index, m.members.get(method).parameters());
        if (compare("addArgument", first(isNone, false, m.expressions.size() == 50), m.expressions.size(),
                () -> x.addArgument(method, index))) {
            append("ARGUMENT", method, index, List.of());
        }
    }

    private static void addFieldOf() {
        int e = number(m.expressions.size());
        int name = name();
        boolean isNone = !has(e, m.expressions);
        if (compare("addFieldOf", first(isNone, !isName(name), m.expressions.size() == 50), m.expressions.size(),
                () -> x.addFieldOf(e, name))) {
            append("FIELD", m.expressions.get(e).method(), name, List.of(e));
        }
    }

    /** An expression that most often belongs to the same method as e does. */
    private static int argumentFor(int e) {
        for (int attempt = 0; attempt < 6; attempt++) {
            int argument = number(m.expressions.size());
            if (!has(argument, m.expressions) || !has(e, m.expressions)
                    || m.expressions.get(argument).method() == m.expressions.get(e).method()) {
                return argument;
            }
        }
        return number(m.expressions.size());
    }

    private static void addCall() {
        int e = number(m.expressions.size());
        int name = name();
        int first = any(3) == 0 ? -1 : argumentFor(e);
        int second = first == -1 && any(10) != 0 || any(2) == 0 ? -1 : argumentFor(e);
        boolean isNone = !has(e, m.expressions) || first != -1 && !has(first, m.expressions)
                || second != -1 && !has(second, m.expressions);
        boolean isBad = !isName(name) || first == -1 && second != -1
                || !isNone && (isElsewhere(e, first) || isElsewhere(e, second));
        if (compare("addCall", first(isNone, isBad, m.expressions.size() == 50), m.expressions.size(),
                () -> x.addCall(e, name, first, second))) {
            append("CALL", m.expressions.get(e).method(), name, present(e, first, second));
        }
    }

    private static boolean isElsewhere(int e, int argument) {
        return argument != -1 && m.expressions.get(e).method() != m.expressions.get(argument).method();
    }

    private static void addResult() {
        int e = number(m.expressions.size());
        int on = features();
        int off = off(on);
        if (compare("addResult", first(!has(e, m.expressions), !isCondition(on, off), m.results.size() == 16),
                m.results.size(), () -> x.addResult(e, on, off))) {
            m.results.add(new Model.Condition(on, off));
            m.resultExpressions.add(e);
        }
    }

    private static void setCondition() {
        int sort = strangeness > 0 ? number(4) : any(4);
        boolean isSort = sort >= 0 && sort <= 3;
        int number = isSort ? number(m.conditions(sort).size()) : any(8);
        int on = features();
        int off = off(on);
        boolean isNone = !isSort || !has(number, m.conditions(sort));
        Model.Condition after = new Model.Condition(on, off);
        long want = isNone || m.conditions(sort).get(number).equals(after) ? 0 : 1;
        if (compare("setCondition", first(isNone, !isCondition(on, off), false), want,
                () -> x.setCondition(sort, number, on, off) ? 1 : 0)) {
            m.conditions(sort).set(number, after);
        }
    }

    private static void dropResult() {
        if (compare("dropResult", first(false, false, m.results.isEmpty()), m.results.size() - 1, () -> x.dropResult())) {
            m.results.remove(m.results.size() - 1);
            m.resultExpressions.remove(m.resultExpressions.size() - 1);
        }
    }

    private static void compareSome() {
        List<Model.Fault> errors = m.errors();
        compare("digest", null, m.digest(errors), () -> x.digest());
        int configuration = number(16);
        boolean isNone = !m.isProduct(configuration);
        int of = number(m.classes.size());
        int other = number(m.classes.size());
        int name = number(10);
        compare("parent", first(!has(of, m.classes), isNone, false),
                isNone || !has(of, m.classes) ? 0 : m.parent(of, configuration), () -> x.parent(of, configuration));
        boolean areNone = !has(of, m.classes) || !has(other, m.classes);
        compare("isBelow", first(areNone, isNone, false),
                !isNone && !areNone && m.isBelow(of, other, configuration) ? 1 : 0,
                () -> x.isBelow(of, other, configuration) ? 1 : 0);
        boolean isMethod = any(2) == 0;
        boolean isBad = !isName(name) || isNone;
        compare("find", first(!has(of, m.classes), isBad, false),
                !has(of, m.classes) || isBad ? 0 : m.find(of, name, isMethod, configuration),
                () -> x.find(of, name, isMethod, configuration));
        int e = number(m.expressions.size());
        compare("typeOf", first(!has(e, m.expressions), isNone, false),
                isNone || !has(e, m.expressions) ? 0 : m.typeOf(e, configuration), () -> x.typeOf(e, configuration));
        int error = number(errors.size());
        int what = number(3);
        compare("error", first(!has(error, errors) || what < 0 || what > 2, false, false),
                !has(error, errors) ? 0 : what == 0 ? errors.get(error).kind()
                        : what == 1 ? errors.get(error).element() : errors.get(error).set(),
                () -> x.error(error, what));
    }

    private static void compareAll() {
        List<Model.Fault> errors = m.errors();
        int products = m.products();
        int right = Model.right(products, errors);
        compare("products", null, products, () -> x.products());
        compare("errorCount", null, errors.size(), () -> x.errorCount());
        for (int i = 0; i < errors.size(); i++) {
            int error = i;
            kindsSeen[errors.get(i).kind()]++;
            compare("error kind", null, errors.get(i).kind(), () -> x.error(error, 0));
            compare("error element", null, errors.get(i).element(), () -> x.error(error, 1));
            compare("error set", null, errors.get(i).set(), () -> x.error(error, 2));
        }
        compare("right", null, right, () -> x.right());
        compare("culprit", null, m.culprit(right), () -> x.culprit());
        countCall();
        due.is("share", x.share(), (double) Integer.bitCount(right) / Integer.bitCount(products));
        compareProducts(errors);
        compareElements();
        compare("digest", null, m.digest(errors), () -> x.digest());
    }

    private static void compareElements() {
        for (int i = -1; i <= 5; i++) {
            int sort = i;
            long want = sort < 0 || sort > 4 ? 0 : sort == 4 ? m.expressions.size() : m.conditions(sort).size();
            compare("count", first(sort < 0 || sort > 4, false, false), want, () -> x.count(sort));
            for (int j = -1; j <= want; j++) {
                int number = j;
                boolean isNone = sort < 0 || sort > 3 || !has(number, m.conditions(sort));
                compare("presence", first(isNone, false, false), isNone ? 0 : m.presence(sort, number),
                        () -> x.presence(sort, number));
            }
        }
    }

    private static void compareProducts(List<Model.Fault> errors) {
        for (int i = -1; i <= 16; i++) {
            int c = i;
            boolean isNone = !m.isProduct(c);
            int happening = 0;
            for (Model.Fault fault : errors) {
                happening += !isNone && (fault.set() >> c & 1) == 1 ? 1 : 0;
            }
            compare("errorsIn", first(false, isNone, false), happening, () -> x.errorsIn(c));
            if (!isNone) {
                compareClasses(c);
                List<Integer> outcomes = m.outcomes(c);
                for (int j = 0; j < outcomes.size(); j++) {
                    int e = j;
                    compare("typeOf", null, outcomes.get(e) > 100 ? -1 : outcomes.get(e), () -> x.typeOf(e, c));
                }
            }
        }
    }

    private static void compareClasses(int c) {
        for (int i = 0; i < m.classes.size(); i++) {
            int a = i;
            compare("parent", null, m.parent(a, c), () -> x.parent(a, c));
            for (int j = 0; j < m.classes.size(); j++) {
                int b = j;
                compare("isBelow", null, m.isBelow(a, b, c) ? 1 : 0, () -> x.isBelow(a, b, c) ? 1 : 0);
            }
            for (int j = 0; j < 10; j++) {
                int name = j;
                compare("find", null, m.find(a, name, true, c), () -> x.find(a, name, true, c));
                compare("find", null, m.find(a, name, false, c), () -> x.find(a, name, false, c));
            }
        }
    }
}

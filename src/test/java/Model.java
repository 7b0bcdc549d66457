import java.util.ArrayList;
import java.util.HashSet;
import java.util.List;
import java.util.Set;

/**
 * The document's words over again, product by product and without regard to speed, as something
 * to compare the class with. Nothing of it is shared with the class.
 */
final class Model {
    record Condition(int on, int off) {
        boolean isTrue(int configuration) {
            for (int f = 0; f < 4; f++) {
                boolean isOn = (configuration & (1 << f)) != 0;
                if ((on & (1 << f)) != 0 && !isOn || (off & (1 << f)) != 0 && isOn) {
                    return false;
                }
            }
            return true;
        }
    }

    record Rule(int kind, int f, int g) { }

    record Link(int of, int parent) { }

    record Member(boolean isMethod, int of, int name, int type, List<Integer> parameters) { }

    record Expression(String kind, int method, int detail, List<Integer> parts) { }

    record Fault(int kind, int element, int set) { }

    static final int INT = 8;

    final List<Rule> rules = new ArrayList<>();
    final List<Condition> classes = new ArrayList<>();
    final List<Condition> links = new ArrayList<>();
    final List<Link> linkEnds = new ArrayList<>();
    final List<Condition> memberConditions = new ArrayList<>();
    final List<Member> members = new ArrayList<>();
    final List<Expression> expressions = new ArrayList<>();
    final List<Condition> results = new ArrayList<>();
    final List<Integer> resultExpressions = new ArrayList<>();

    List<Condition> conditions(int sort) {
        return List.of(classes, links, memberConditions, results).get(sort);
    }

    boolean isProduct(int c) {
        if (c < 0 || c > 15) {
            return false;
        }
        for (Rule rule : rules) {
            boolean hasF = (c >> rule.f() & 1) == 1;
            boolean hasG = (c >> rule.g() & 1) == 1;
            if (rule.kind() == 0 ? hasF && !hasG : hasF && hasG) {
                return false;
            }
        }
        return true;
    }

    List<Integer> productList() {
        List<Integer> list = new ArrayList<>();
        for (int c = 0; c < 16; c++) {
            if (isProduct(c)) {
                list.add(c);
            }
        }
        return list;
    }

    int products() {
        int set = 0;
        for (int c : productList()) {
            set += 1 << c;
        }
        return set;
    }

    boolean isThere(int sort, int number, int c) {
        if (!conditions(sort).get(number).isTrue(c)) {
            return false;
        }
        switch (sort) {
            case 0:
                return true;
            case 1:
                return isThere(0, linkEnds.get(number).of(), c) && isThere(0, linkEnds.get(number).parent(), c);
            case 2:
                return isThere(0, members.get(number).of(), c);
            default:
                return isThere(2, expressions.get(resultExpressions.get(number)).method(), c);
        }
    }

    int presence(int sort, int number) {
        int set = 0;
        for (int c : productList()) {
            set += isThere(sort, number, c) ? 1 << c : 0;
        }
        return set;
    }

    int parent(int of, int c) {
        for (int link = 0; link < links.size(); link++) {
            if (linkEnds.get(link).of() == of && isThere(1, link, c)) {
                return linkEnds.get(link).parent();
            }
        }
        return -1;
    }

    boolean isBelow(int a, int b, int c) {
        Set<Integer> passed = new HashSet<>();
        int at = parent(a, c);
        while (at != -1 && passed.add(at)) {
            if (at == b) {
                return true;
            }
            at = parent(at, c);
        }
        return false;
    }

    boolean fits(int type, int other, int c) {
        return type == other || type < INT && other < INT && isBelow(type, other, c);
    }

    int find(int of, int name, boolean isMethod, int c) {
        return find(of, name, isMethod, c, new HashSet<>());
    }

    private int find(int of, int name, boolean isMethod, int c, Set<Integer> asked) {
        if (of == -1 || !asked.add(of)) {
            return -1;
        }
        for (int m = 0; m < members.size(); m++) {
            Member member = members.get(m);
            if (member.isMethod() == isMethod && member.of() == of && member.name() == name && isThere(2, m, c)) {
                return m;
            }
        }
        return find(parent(of, c), name, isMethod, c, asked);
    }

    /** For each expression its type (-1 none, -2 no method), or 100 plus the kind of its error. */
    List<Integer> outcomes(int c) {
        List<Integer> list = new ArrayList<>();
        for (Expression e : expressions) {
            list.add(outcome(e, list, c));
        }
        return list;
    }

    private int outcome(Expression e, List<Integer> before, int c) {
        if (!isThere(2, e.method(), c)) {
            return -2;
        }
        List<Integer> types = new ArrayList<>();
        for (int part : e.parts()) {
            if (before.get(part) < 0 || before.get(part) > 100) {
                return -1;
            }
            types.add(before.get(part));
        }
        Member own = members.get(e.method());
        switch (e.kind()) {
            case "NEW":
                return isThere(0, e.detail(), c) ? e.detail() : 108;
            case "NUMBER":
                return INT;
            case "SELF":
                return own.of();
            case "ARGUMENT":
                return own.parameters().get(e.detail());
            default:
                return outcomeOfUse(e, types, c);
        }
    }

    private int outcomeOfUse(Expression e, List<Integer> types, int c) {
        if (types.get(0) == INT) {
            return 109;
        }
        boolean isCall = e.kind().equals("CALL");
        int found = find(types.get(0), e.detail(), isCall, c);
        if (found == -1) {
            return 110;
        }
        Member member = members.get(found);
        if (isCall) {
            List<Integer> arguments = types.subList(1, types.size());
            if (arguments.size() != member.parameters().size()) {
                return 111;
            }
            for (int i = 0; i < arguments.size(); i++) {
                if (!fits(arguments.get(i), member.parameters().get(i), c)) {
                    return 111;
                }
            }
        }
        return member.type();
    }

    int typeOf(int e, int c) {
        int outcome = outcomes(c).get(e);
        return outcome > 100 ? -1 : outcome;
    }

    private boolean isMissing(int type, int c) {
        return type != INT && !isThere(0, type, c);
    }

    private boolean happens(int kind, int n, int c, List<Integer> outcomes) {
        switch (kind) {
            case 1:
                return links.get(n).isTrue(c) && isThere(0, linkEnds.get(n).of(), c)
                        && !isThere(0, linkEnds.get(n).parent(), c);
            case 2:
                int there = 0;
                for (int link = 0; link < links.size(); link++) {
                    there += linkEnds.get(link).of() == n && isThere(1, link, c) ? 1 : 0;
                }
                return isThere(0, n, c) && there > 1;
            case 3:
                return isThere(0, n, c) && isBelow(n, n, c);
            case 4:
                return memberConditions.get(n).isTrue(c) && !isThere(0, members.get(n).of(), c);
            case 5:
                return isThere(2, n, c) && namesMissing(members.get(n), c);
            case 6:
                return isThere(2, n, c) && isAgain(n, c);
            case 7:
                return isThere(2, n, c) && overridesBadly(n, c);
            case 12:
                int type = outcomes.get(resultExpressions.get(n));
                return isThere(3, n, c) && type >= 0 && type <= INT
                        && !fits(type, members.get(expressions.get(resultExpressions.get(n)).method()).type(), c);
            default:
                return outcomes.get(n) == 100 + kind;
        }
    }

    private boolean namesMissing(Member member, int c) {
        boolean isMissing = isMissing(member.type(), c);
        for (int parameter : member.parameters()) {
            isMissing |= isMissing(parameter, c);
        }
        return isMissing;
    }

    private boolean isAgain(int n, int c) {
        for (int m = 0; m < n; m++) {
            if (isThere(2, m, c) && members.get(m).isMethod() == members.get(n).isMethod()
                    && members.get(m).of() == members.get(n).of() && members.get(m).name() == members.get(n).name()) {
                return true;
            }
        }
        return false;
    }

    private boolean overridesBadly(int n, int c) {
        Member own = members.get(n);
        if (!own.isMethod() || parent(own.of(), c) == -1) {
            return false;
        }
        int found = find(parent(own.of(), c), own.name(), true, c);
        if (found == -1 || found == n) {
            return false;
        }
        Member other = members.get(found);
        return !own.parameters().equals(other.parameters()) || !fits(own.type(), other.type(), c);
    }

    private int elements(int kind) {
        return kind == 1 ? links.size() : kind <= 3 ? classes.size() : kind <= 7 ? members.size()
                : kind <= 11 ? expressions.size() : results.size();
    }

    List<Fault> errors() {
        List<List<Integer>> outcomes = new ArrayList<>();
        for (int c = 0; c < 16; c++) {
            outcomes.add(isProduct(c) ? outcomes(c) : null);
        }
        List<Fault> faults = new ArrayList<>();
        for (int kind = 1; kind <= 12; kind++) {
            for (int n = 0; n < elements(kind); n++) {
                int set = 0;
                for (int c : productList()) {
                    set += happens(kind, n, c, outcomes.get(c)) ? 1 << c : 0;
                }
                if (set != 0) {
                    faults.add(new Fault(kind, n, set));
                }
            }
        }
        return faults;
    }

    static int right(int products, List<Fault> errors) {
        int set = 0;
        for (int c = 0; c < 16; c++) {
            boolean isRight = (products >> c & 1) == 1;
            for (Fault fault : errors) {
                isRight &= (fault.set() >> c & 1) == 0;
            }
            set += isRight ? 1 << c : 0;
        }
        return set;
    }

    /** Goes through the conditions by their number of features, then in ascending order. */
    int culprit(int right) {
        for (int features = 0; features <= 4; features++) {
            for (int told = 0; told < 256; told++) {
                Condition condition = new Condition(told / 16, told % 16);
                if (Integer.bitCount(condition.on()) + Integer.bitCount(condition.off()) == features
                        && isCulprit(condition, right)) {
                    return told;
                }
            }
        }
        return -1;
    }

    private boolean isCulprit(Condition condition, int right) {
        boolean isEverTrue = false;
        for (int c : productList()) {
            if (condition.isTrue(c)) {
                isEverTrue = true;
                if ((right >> c & 1) == 1) {
                    return false;
                }
            }
        }
        return isEverTrue;
    }

    long digest(List<Fault> errors) {
        List<Long> numbers = new ArrayList<>();
        numbers.add((long) products());
        for (int sort = 0; sort < 4; sort++) {
            numbers.add((long) conditions(sort).size());
        }
        numbers.add((long) expressions.size());
        for (int sort = 0; sort < 4; sort++) {
            for (int n = 0; n < conditions(sort).size(); n++) {
                numbers.add((long) presence(sort, n));
            }
        }
        numbers.add((long) errors.size());
        for (Fault fault : errors) {
            numbers.addAll(List.of((long) fault.kind(), (long) fault.element(), (long) fault.set()));
        }
        List<List<Integer>> outcomes = new ArrayList<>();
        for (int c : productList()) {
            outcomes.add(outcomes(c));
        }
        for (int e = 0; e < expressions.size(); e++) {
            for (List<Integer> ofProduct : outcomes) {
                numbers.add((long) (ofProduct.get(e) > 100 ? -1 : ofProduct.get(e)));
            }
        }
        long d = 149;
        for (long x : numbers) {
            d = d * 31 + x;
        }
        return d;
    }
}

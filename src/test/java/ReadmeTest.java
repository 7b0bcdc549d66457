/** The example of README.md, call by call: what is written there is to be true. */
public final class ReadmeTest {
    public static void main(String[] args) {
        Due due = new Due();
        ProductLineChecker x = new ProductLineChecker();
        due.is("addRule(0, 1, 0)", x.addRule(0, 1, 0), 1);
        due.is("products()", x.products(), 48059);

        int base = x.addClass(0, 0);
        int extra = x.addClass(1, 0);
        due.is("addLink(extra, base, 0, 0)", x.addLink(extra, base, 0, 0), 0);
        int field = x.addField(base, 3, 8, 0, 0);
        int method = x.addMethod(base, 0, 8, -1, -1, 0, 0);
        int made = x.addNew(method, extra);
        int read = x.addFieldOf(made, 3);
        due.is("addResult(read, 0, 0)", x.addResult(read, 0, 0), 0);

        due.is("parent(extra, 1)", x.parent(extra, 1), base);
        due.is("base", base, 0);
        due.is("find(extra, 3, false, 1)", x.find(extra, 3, false, 1), field);
        due.is("field", field, 0);
        due.is("typeOf(read, 1)", x.typeOf(read, 1), 8);
        due.is("typeOf(read, 0)", x.typeOf(read, 0), -1);

        due.is("errorCount()", x.errorCount(), 1);
        due.is("error(0, 0)", x.error(0, 0), 8);
        due.is("error(0, 1)", x.error(0, 1), made);
        due.is("made", made, 0);
        due.is("error(0, 2)", x.error(0, 2), 4369);
        due.is("right()", x.right(), 43690);
        due.is("share()", x.share(), 8.0 / 12);
        due.is("culprit()", x.culprit(), 1);

        due.is("setCondition(0, extra, 0, 0)", x.setCondition(0, extra, 0, 0), true);
        due.is("errorCount(), mended", x.errorCount(), 0);
        due.is("culprit(), mended", x.culprit(), -1);
        due.end();
    }
}

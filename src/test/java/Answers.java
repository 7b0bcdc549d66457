import java.util.ArrayList;
import java.util.List;

/**
 * What a checker answers to one long run of calls, which asks for all that it tells, then adds to
 * it, changes conditions, and takes away all that can be. Two checkers with the same state answer
 * the same; with the calls that made a state of State it stays below the document's 512 calls.
 */
final class Answers {
    interface Use {
        Object on(ProductLineChecker x);
    }

    private final ProductLineChecker x;
    private final List<Object> told = new ArrayList<>();

    private Answers(ProductLineChecker x) {
        this.x = x;
    }

    static List<Object> of(ProductLineChecker x) {
        Answers answers = new Answers(x);
        answers.askForProducts();
        answers.askForElements();
        answers.askForErrors();
        answers.changeConditions();
        answers.add();
        answers.drop();
        return answers.told;
    }

    /** The answer, or the class of the exception that is thrown. */
    static Object answer(ProductLineChecker x, Use use) {
        try {
            return use.on(x);
        } catch (RuntimeException e) {
            return e.getClass();
        }
    }

    private void ask(Use use) {
        told.add(answer(x, use));
    }

    private void askForProducts() {
        ask(y -> y.products());
        ask(y -> y.right());
        ask(y -> y.culprit());
        ask(y -> y.share());
        ask(y -> y.digest());
        for (int i = 0; i < 16; i++) {
            int configuration = i;
            ask(y -> y.errorsIn(configuration));
            ask(y -> y.parent(1, configuration));
        }
    }

    private void askForElements() {
        for (int i = 0; i <= 4; i++) {
            int sort = i;
            ask(y -> y.count(sort));
        }
        for (int i = 0; i < 4; i++) {
            int sort = i;
            for (int j = 0; j < x.count(sort); j++) {
                int number = j;
                ask(y -> y.presence(sort, number));
            }
        }
    }

    private void askForErrors() {
        ask(y -> y.errorCount());
        for (int i = 0; i < 10; i++) {
            int error = i;
            ask(y -> y.error(error, 0));
            ask(y -> y.error(error, 1));
            ask(y -> y.error(error, 2));
        }
    }

    /** Tells the conditions that there are: each is another one than the next that is set. */
    private void changeConditions() {
        for (int i = 0; i < 4; i++) {
            int sort = i;
            ask(y -> y.setCondition(sort, 0, 0, 0));
            ask(y -> y.setCondition(sort, 1, 1, 0));
            ask(y -> y.digest());
        }
    }

    private void add() {
        ask(y -> y.addClass(0, 0));
        ask(y -> y.addLink(0, 1, 0, 0));
        ask(y -> y.addField(1, 9, 8, 0, 0));
        ask(y -> y.addMethod(1, 9, 8, 8, -1, 0, 0));
        ask(y -> y.addNew(0, 1));
        ask(y -> y.addPlain(0, true));
        ask(y -> y.addArgument(0, 0));
        ask(y -> y.addFieldOf(0, 9));
        ask(y -> y.addCall(0, 9, 1, -1));
        ask(y -> y.addResult(0, 0, 0));
        ask(y -> y.digest());
        ask(y -> y.addRule(0, 0, 1));
        ask(y -> y.digest());
    }

    /** One more than there can be: the last ones are refused. */
    private void drop() {
        for (int i = 0; i <= 8; i++) {
            ask(y -> y.dropRule());
            ask(y -> y.products());
        }
        for (int i = 0; i <= 16; i++) {
            ask(y -> y.dropResult());
            ask(y -> y.digest());
        }
    }
}

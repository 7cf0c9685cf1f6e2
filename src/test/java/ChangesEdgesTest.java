/** The document's "Changes and errors": a test for each sentence, and for each call that it binds. */
public final class ChangesEdgesTest {
    private static final int INVALID = Run.INVALID;
    private static final int NOT_POSSIBLE = Run.NOT_POSSIBLE;
    private static final int LIMIT = Run.LIMIT;
    private static final int NOT_FOUND = Run.NOT_FOUND;
    private static final int MIN = Run.MIN;
    private static final int MAX = Run.MAX;

    public static void main(String[] args) {
        changes();
        questionsAreNoChanges();
        textIsNoChange();
        undoIsNoChange();
        changesThatSetWhatIsSet();
        historyOfAtMostFive();
        oldestStateIsDropped();
        recordsEverything();
        recordsEverythingOfTheGang();
        recordsNotTheText();
        invalidRatherThanNotPossible();
        invalidRatherThanLimitReached();
        invalidRatherThanNotFound();
        notPossibleRatherThanLimitReached();
        wrongArgumentsChangeNothing();
        whatIsNotPossibleChangesNothing();
        errorsOfAFullNetChangeNothing();
        errorsAtTheEndOfTimeChangeNothing();
        errorsOfTextsChangeNothing();
        errorsKeepAFullHistory();
        noSuchSection();
        noSuchIsolator();
        constants();
        Check.end("ChangesEdgesTest");
    }

    /** Sections 0 (fed) and 1 (bridged, earthed), each of which is a change. */
    private static void changes() {
        Run x = new Run("the changes are section, isolator, pool, step, enter, leave, fetch, pass and play");
        oneChange(x.section(1, 1), 1);
        oneChange(x.section(1, 0), 2);
        oneChange(x.isolator(0, 1), 3);
        oneChange(x.pool(13), 4);
        oneChange(x.step(0, 1), 5);
        x.undo().is(4);
        x.undo().is(3);
        x.undo().is(2);
        x.undo().is(1);
        oneChange(x.section(1, 0), 2);
        oneChange(x.step(0, 1), 3);
        oneChange(x.step(6, 1), 4);
        oneChange(x.enter(1, 2, 0), 5);
        x.undo().is(4);
        x.undo().is(3);
        oneChange(x.step(6, 1), 4);
        oneChange(x.enter(1, 2, 0), 5);
        x.undo().is(4);
        x.enter(1, 2, 0).is(1);
        oneChange(x.leave(1, 0), 5);
        x.sectionOf(1, 7).is(2);
        x.undo().is(4);
        x.sectionOf(1, 7).is(0);
        x.leave(1, 0).is(0);
        for (int i = 4; i >= 3; i--) {
            x.undo().is(i);
        }
        oneChange(x.pass(1), 4);
        oneChange(x.play(), 5);
        fetchIsAChange();
    }

    private static void oneChange(Run x, int states) {
        Check.due("a change is no error", x.answer() >= 0 ? 1 : 0, 1);
        x.count(14).is(states);
    }

    private static void fetchIsAChange() {
        Run x = Run.withTools("the changes are .. fetch ..", 2);
        x.undo().is(4);
        x.fetch(1).is(2);
        x.count(14).is(5);
        x.undo().is(4);
        x.sectionOf(1, 7).is(2);
    }

    private static void questionsAreNoChanges() {
        Run x = Run.earthed("questions are no changes");
        x.isolator(1, 0).is(NOT_POSSIBLE);
        x.undo().is(3);
        x.undo().is(2);
        x.isolator(1, 0).is(0);
        x.sectionOf(0, 3);
        x.isolatorOf(0, 3);
        x.isolatorOf(0, 4);
        x.count(14).is(3);
        x.refusal(0, 0).is(0);
        x.refusal(2, 0).is(32);
        x.plan(0, 0).is(0);
        x.canPlan(0).is(1);
        x.log(0, 0).is(NOT_FOUND);
        x.text("b0;").fault(0).is(NOT_FOUND);
        x.count(14).is(3);
        x.count(9).is(0);
        x.undo().is(2);
        x.count(1).is(0);
    }

    private static void textIsNoChange() {
        Run x = new Run("type and clearText are no changes");
        x.type('b').is(1);
        x.count(14).is(0);
        x.clearText().is(1);
        x.count(14).is(0);
        x.clearText().is(0);
        x.count(14).is(0);
        x.undo().is(NOT_POSSIBLE);
    }

    private static void undoIsNoChange() {
        Run x = new Run("undo is no change");
        x.pass(1);
        x.pass(2);
        x.undo().is(1);
        x.count(8).is(1);
        x.undo().is(0);
        x.count(8).is(0);
        x.undo().is(NOT_POSSIBLE);
        x.count(8).is(0);
        x.count(14).is(0);
    }

    private static void changesThatSetWhatIsSet() {
        Run x = new Run("a change is the call that returns no error, also if all stays as it was");
        x.pool(12).is(12);
        x.count(14).is(1);
        x.play().is(0);
        x.count(14).is(2);
        x.undo().is(1);
        x.undo().is(0);
        x.undo().is(NOT_POSSIBLE);
    }

    private static void historyOfAtMostFive() {
        Run x = new Run("a history of at most 5 states is kept");
        for (int i = 1; i <= 8; i++) {
            x.pass(1).is(i);
            x.count(14).is(Math.min(i, 5));
        }
        for (int i = 4; i >= 0; i--) {
            x.undo().is(i);
            x.count(8).is(3 + i);
        }
        x.undo().is(NOT_POSSIBLE);
        x.count(8).is(3);
    }

    private static void oldestStateIsDropped() {
        Run x = new Run("if there are 6 states then, the oldest one is dropped");
        for (int i = 1; i <= 5; i++) {
            x.pass(1).is(i);
        }
        x.pool(0);
        x.count(14).is(5);
        for (int i = 4; i >= 1; i--) {
            x.undo().is(i);
            x.count(8).is(i + 1);
        }
        x.pass(10).is(12);
        x.pass(10).is(22);
        x.pass(10).is(32);
        x.pass(10).is(42);
        x.pass(10).is(52);
        x.count(14).is(5);
        x.undo().is(4);
        x.count(8).is(42);
        x.undo().is(3);
        x.undo().is(2);
        x.undo().is(1);
        x.undo().is(0);
        x.count(8).is(2);
        x.undo().is(NOT_POSSIBLE);
    }

    /** Section 1 has an earth, tools that were left, and a gang that is late. */
    private static Run lateGang(String sentence) {
        Run x = Run.withTools(sentence, 3);
        x.step(6, 1);
        x.enter(1, 4, 2);
        x.pass(5);
        return x;
    }

    private static void recordsEverything() {
        Run x = lateGang("each change records everything before it");
        x.leave(1, 1).is(3);
        x.step(7, 1).is(1);
        x.section(5, 1).is(2);
        x.step(0, 0).is(2);
        x.pool(40).is(38);
        undoFive(x);
        sameButForTheHistory(x, lateGang("the same without what was undone"));
    }

    private static void recordsEverythingOfTheGang() {
        Run x = lateGang("each change records everything before it, of the gang too");
        x.leave(1, 1).is(3);
        x.fetch(1).is(6);
        x.enter(1, 30, 70).is(1);
        x.pass(2).is(7);
        x.text("b0;f0;").play().is(2);
        x.clearText();
        undoFive(x);
        sameButForTheHistory(x, lateGang("the same without what was undone"));
    }

    private static void undoFive(Run x) {
        for (int i = 4; i >= 0; i--) {
            x.undo().is(i);
        }
    }

    private static void sameButForTheHistory(Run x, Run z) {
        for (int what = 0; what <= 13; what++) {
            x.count(what).is(z.count(what).answer());
        }
        for (int section = 0; section < 2; section++) {
            for (int what = 0; what <= 10; what++) {
                x.sectionOf(section, what).is(z.sectionOf(section, what).answer());
                z.isAny();
            }
        }
        for (int back = 0; back < 4; back++) {
            for (int what = 0; what <= 2; what++) {
                x.log(back, what).is(z.log(back, what).answer());
            }
        }
        x.leave(1, 5).is(NOT_POSSIBLE);
        x.leave(1, 4).is(3);
        x.fetch(1).is(3);
    }

    private static void recordsNotTheText() {
        Run x = Run.row("records everything but the text", 2);
        x.text("b1;");
        x.pass(1);
        x.text("b1;b0");
        x.undo();
        x.count(15).is(5);
        x.fault(0).is(3);
        x.type(';').is(6);
        x.play().is(2);
        x.clearText().is(6);
        x.undo();
        x.count(15).is(0);
        x.count(5).is(0);
    }

    private static void invalidRatherThanNotPossible() {
        Run x = Run.earthed("INVALID_ARGUMENT is returned rather than NOT_POSSIBLE");
        x.pool(1);
        x.step(0, 0).is(NOT_POSSIBLE);
        x.pool(0).is(NOT_POSSIBLE);
        x.pool(-1).is(INVALID);
        x.pool(MIN).is(INVALID);
        x.step(0, 2).is(INVALID);
        x.step(8, 0).is(INVALID);
        x.isolator(1, 1).is(INVALID);
        x.isolator(1, 2).is(INVALID);
        x.enter(0, 0, 0).is(NOT_POSSIBLE);
        x.enter(0, 51, 0).is(INVALID);
        x.enter(0, 0, -1).is(INVALID);
        x.enter(1, 0, 0).is(1);
        x.enter(1, -1, 0).is(INVALID);
        x.enter(1, 0, 100001).is(INVALID);
        x.leave(0, 0).is(NOT_POSSIBLE);
        x.leave(0, -1).is(INVALID);
        x.leave(0, 51).is(INVALID);
        x.leave(1, 51).is(INVALID);
        x.leave(2, 0).is(INVALID);
        x.fetch(0).is(NOT_POSSIBLE);
        x.fetch(2).is(INVALID);
    }

    private static void invalidRatherThanLimitReached() {
        Run x = new Run("INVALID_ARGUMENT is returned rather than LIMIT_REACHED");
        for (int i = 0; i < 10; i++) {
            x.section(1, 1);
        }
        x.section(1, 1).is(LIMIT);
        x.section(0, 1).is(INVALID);
        x.section(10, 1).is(INVALID);
        x.section(1, 2).is(INVALID);
        x.section(1, -1).is(INVALID);
        for (int i = 0; i < 16; i++) {
            x.isolator(0, 1);
        }
        x.isolator(0, 1).is(LIMIT);
        x.isolator(0, 0).is(INVALID);
        x.isolator(0, 10).is(INVALID);
        x.isolator(-1, 0).is(INVALID);
        for (int i = 0; i < 10; i++) {
            x.pass(10000);
        }
        x.pass(1).is(LIMIT);
        x.pass(0).is(INVALID);
        x.pass(10001).is(INVALID);
        x.pass(MAX).is(INVALID);
        for (int i = 0; i < 60; i++) {
            x.type(' ');
        }
        x.type(' ').is(LIMIT);
        x.type(31).is(INVALID);
        x.type(127).is(INVALID);
    }

    private static void invalidRatherThanNotFound() {
        Run x = Run.row("INVALID_ARGUMENT is returned rather than NOT_FOUND", 2);
        x.sectionOf(0, 10).is(NOT_FOUND);
        x.sectionOf(2, 10).is(INVALID);
        x.sectionOf(0, 11).is(INVALID);
        x.log(0, 0).is(NOT_FOUND);
        x.log(-1, 0).is(INVALID);
        x.log(0, 3).is(INVALID);
        x.log(0, -1).is(INVALID);
        x.log(MAX, 3).is(INVALID);
        x.plan(0, 4).is(NOT_FOUND);
        x.plan(2, 4).is(INVALID);
        x.plan(0, -1).is(INVALID);
        x.fault(0).is(NOT_FOUND);
        x.fault(2).is(INVALID);
        x.fault(-1).is(INVALID);
    }

    private static void notPossibleRatherThanLimitReached() {
        Run x = Run.earthed("NOT_POSSIBLE is returned rather than LIMIT_REACHED");
        x.section(1, 1);
        for (int i = 0; i < 16; i++) {
            x.isolator(0, 2).is(i);
        }
        x.isolator(0, 2).is(LIMIT);
        x.isolator(0, 1).is(NOT_POSSIBLE);
        x.isolator(1, 0).is(NOT_POSSIBLE);
        x.enter(1, 1, 0);
        x.leave(1, 0);
        x.step(7, 1);
        x.isolator(2, 1).is(NOT_POSSIBLE);
        x.fetch(1);
        x.isolator(0, 1).is(LIMIT);
    }

    /** Sections 0 (fed), 1 (earthed, tools left, a gang), and an open isolator between them. */
    private static Run busy(String sentence) {
        Run x = Run.row(sentence, 2);
        x.text("b1;x");
        x.step(0, 1);
        x.step(2, 0);
        x.step(6, 1);
        x.enter(1, 9, 4);
        x.leave(1, 2);
        x.pass(3);
        x.enter(1, 5, 8);
        x.pass(6);
        return x;
    }

    private static void wrongArgumentsChangeNothing() {
        int[] far = {MIN, -1, 2, 11, 51, 100001, MAX};
        for (int wrong : far) {
            Run x = busy("a call that returns an error changes nothing");
            x.section(wrong, 2).is(INVALID);
            x.isolator(0, wrong).is(INVALID);
            x.isolator(wrong, 0).is(INVALID);
            x.pool(wrong < 0 || wrong > 40 ? wrong : 41).is(INVALID);
            x.step(wrong == 2 ? 8 : wrong, 0).is(INVALID);
            x.step(0, wrong).is(INVALID);
            x.enter(wrong, 0, 9).is(INVALID);
            x.leave(wrong, 0).is(INVALID);
            x.leave(1, wrong < 0 || wrong > 50 ? wrong : 51).is(INVALID);
            x.fetch(wrong).is(INVALID);
            x.pass(wrong < 1 || wrong > 10000 ? wrong : 0).is(INVALID);
            x.type(wrong < 32 || wrong > 126 ? wrong : 127).is(INVALID);
            x.isLike(busy("the same without the error"));
        }
    }

    private static void whatIsNotPossibleChangesNothing() {
        Run x = busy("a call that returns NOT_POSSIBLE changes nothing");
        x.isolator(0, 1).is(NOT_POSSIBLE);
        x.pool(0).is(NOT_POSSIBLE);
        int[][] refused = {{0, 1}, {1, 1}, {1, 0}, {2, 0}, {3, 0}, {4, 0}, {4, 1}, {5, 0}, {6, 0}, {6, 1}, {7, 0},
            {7, 1}};
        for (int[] r : refused) {
            x.step(r[0], r[1]).is(NOT_POSSIBLE);
        }
        x.enter(0, 1, 50).is(NOT_POSSIBLE);
        x.enter(1, 1, 50).is(NOT_POSSIBLE);
        x.leave(0, 0).is(NOT_POSSIBLE);
        x.leave(1, 6).is(NOT_POSSIBLE);
        x.fetch(0).is(NOT_POSSIBLE);
        x.fetch(1).is(NOT_POSSIBLE);
        x.play().is(NOT_POSSIBLE);
        x.isLike(busy("the same without the error"));
        Run empty = new Run("undo of an empty history changes nothing");
        empty.undo().is(NOT_POSSIBLE);
        empty.isLike(new Run("the same without the error"));
    }

    private static void errorsOfAFullNetChangeNothing() {
        Run x = new Run("a call that returns LIMIT_REACHED changes nothing");
        for (int i = 0; i < 10; i++) {
            x.section(1, i % 2);
        }
        for (int i = 0; i < 16; i++) {
            x.isolator(0, 1);
        }
        x.section(9, 1).is(LIMIT);
        x.isolator(2, 3).is(LIMIT);
        x.count(0).is(10);
        x.count(1).is(16);
        x.count(4).is(6);
        x.count(13).is(9);
        x.count(14).is(5);
        x.sectionOf(9, 0).is(1);
        x.sectionOf(2, 8).is(1);
        x.isolatorOf(15, 0).is(0);
        for (int i = 0; i < 5; i++) {
            x.undo().is(4 - i);
            x.count(1).is(15 - i);
        }
    }

    private static void errorsAtTheEndOfTimeChangeNothing() {
        Run x = new Run("pass that returns LIMIT_REACHED changes nothing");
        for (int i = 1; i <= 9; i++) {
            x.pass(10000).is(10000 * i);
        }
        x.pass(9999).is(99999);
        x.pass(2).is(LIMIT);
        x.pass(10000).is(LIMIT);
        x.count(8).is(99999);
        x.count(14).is(5);
        x.undo().is(4);
        x.count(8).is(90000);
    }

    private static void errorsOfTextsChangeNothing() {
        Run x = Run.row("type, fault and play that return an error change nothing", 2);
        x.text("b1;t1;b1;t1;b1;t1;b1;t1;b1;t1;b1;t1;b1;t1;b1;t1;b1;t1;b1;t1;");
        x.type(';').is(LIMIT);
        x.type(200).is(INVALID);
        x.fault(2).is(INVALID);
        x.fault(0).is(NOT_FOUND);
        x.count(15).is(60);
        x.play().is(20);
        x.text("b1;t1;b1;t");
        x.play().is(NOT_POSSIBLE);
        x.count(15).is(10);
        x.count(9).is(20);
        x.count(5).is(0);
        x.type('0').is(11);
        x.type(';').is(12);
        x.fault(0).is(9);
        x.fault(1).is(21);
    }

    private static void errorsKeepAFullHistory() {
        Run x = new Run("an error drops no state of a full history");
        x.section(1, 1);
        for (int i = 1; i <= 5; i++) {
            x.pass(1);
        }
        x.section(0, 0).is(INVALID);
        x.isolator(0, 0).is(INVALID);
        x.pool(41).is(INVALID);
        x.step(1, 0).is(NOT_POSSIBLE);
        x.enter(0, 0, 9).is(NOT_POSSIBLE);
        x.leave(0, 0).is(NOT_POSSIBLE);
        x.fetch(0).is(NOT_POSSIBLE);
        x.pass(0).is(INVALID);
        x.text("x").play().is(NOT_POSSIBLE);
        x.count(14).is(5);
        for (int i = 4; i >= 0; i--) {
            x.undo().is(i);
            x.count(8).is(i);
        }
    }

    private static void noSuchSection() {
        int[] none = {MIN, -1, 2, 9, 10, MAX};
        for (int at : none) {
            Run x = Run.row("if there is no section with a certain number, this is INVALID_ARGUMENT", 2);
            x.isolator(at, 0).is(INVALID);
            x.isolator(0, at).is(INVALID);
            for (int what = 0; what <= 10; what++) {
                x.sectionOf(at, what).is(INVALID);
            }
            for (int kind : new int[] {0, 1, 4, 5, 6, 7}) {
                x.refusal(kind, at).is(INVALID);
                x.step(kind, at).is(INVALID);
            }
            x.plan(at, 0).is(INVALID);
            x.canPlan(at).is(INVALID);
            x.enter(at, 0, 0).is(INVALID);
            x.leave(at, 0).is(INVALID);
            x.fetch(at).is(INVALID);
            x.count(14).is(3);
        }
        Run x = new Run("without sections there is none with the number 0");
        x.isolator(0, 1).is(INVALID);
        x.sectionOf(0, 0).is(INVALID);
        x.refusal(0, 0).is(INVALID);
        x.step(0, 0).is(INVALID);
        x.plan(0, 0).is(INVALID);
        x.canPlan(0).is(INVALID);
        x.enter(0, 0, 0).is(INVALID);
        x.leave(0, 0).is(INVALID);
        x.fetch(0).is(INVALID);
        x.section(1, 1);
        x.undo().is(0);
        x.sectionOf(0, 0).is(INVALID);
    }

    private static void noSuchIsolator() {
        int[] none = {MIN, -1, 1, 15, 16, MAX};
        for (int at : none) {
            Run x = Run.row("if there is no isolator with a certain number, this is INVALID_ARGUMENT", 2);
            for (int what = 0; what <= 5; what++) {
                x.isolatorOf(at, what).is(INVALID);
            }
            for (int kind = 2; kind <= 3; kind++) {
                x.refusal(kind, at).is(INVALID);
                x.step(kind, at).is(INVALID);
            }
            x.refusal(3, 0).is(41);
        }
        Run x = Run.row("an isolator that was undone is none", 2);
        x.undo();
        x.isolatorOf(0, 0).is(INVALID);
        x.refusal(2, 0).is(INVALID);
        x.step(2, 0).is(INVALID);
    }

    private static void constants() {
        Check.due("INVALID_ARGUMENT = -1", TramWires.INVALID_ARGUMENT, -1);
        Check.due("NOT_POSSIBLE = -2", TramWires.NOT_POSSIBLE, -2);
        Check.due("LIMIT_REACHED = -3", TramWires.LIMIT_REACHED, -3);
        Check.due("NOT_FOUND = -4", TramWires.NOT_FOUND, -4);
    }
}

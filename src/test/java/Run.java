/**
 * A new object for the test of one sentence of the document. It counts its calls, since the document says nothing
 * about those after the 512th, and tells of an error that a test did not look for.
 */
final class Run {
    static final int INVALID = TramWires.INVALID_ARGUMENT;
    static final int NOT_POSSIBLE = TramWires.NOT_POSSIBLE;
    static final int LIMIT = TramWires.LIMIT_REACHED;
    static final int NOT_FOUND = TramWires.NOT_FOUND;
    static final int MIN = Integer.MIN_VALUE;
    static final int MAX = Integer.MAX_VALUE;
    static final int MOST_CALLS = 512;

    private final TramWires wires = new TramWires();
    private final String sentence;
    private int calls;
    private String call = "new TramWires()";
    private int answer;
    private boolean looked = true;

    Run(String sentence) {
        this.sentence = sentence;
    }

    /** The latest call's answer is the one that is due. */
    void is(int due) {
        looked = true;
        Check.due(sentence + ": call " + calls + ", " + call, answer, due);
    }

    /** The latest call's answer may be an error. */
    void isAny() {
        looked = true;
    }

    int answer() {
        return answer;
    }

    int calls() {
        return calls;
    }

    private Run made(String name, int got) {
        if (!looked && answer < 0) {
            Check.due(sentence + ": call " + calls + ", " + call + ", which nobody looked at", answer, 0);
        }
        calls++;
        Check.due(sentence + ": calls after the 512th", Math.max(0, calls - MOST_CALLS), 0);
        call = name;
        answer = got;
        looked = false;
        return this;
    }

    Run section(int buses, int feeder) {
        return made("section(" + buses + ", " + feeder + ")", wires.section(buses, feeder));
    }

    Run isolator(int one, int other) {
        return made("isolator(" + one + ", " + other + ")", wires.isolator(one, other));
    }

    Run pool(int buses) {
        return made("pool(" + buses + ")", wires.pool(buses));
    }

    Run sectionOf(int section, int what) {
        return made("sectionOf(" + section + ", " + what + ")", wires.sectionOf(section, what));
    }

    Run isolatorOf(int isolator, int what) {
        return made("isolatorOf(" + isolator + ", " + what + ")", wires.isolatorOf(isolator, what));
    }

    Run count(int what) {
        return made("count(" + what + ")", wires.count(what));
    }

    Run undo() {
        return made("undo()", wires.undo());
    }

    Run refusal(int kind, int at) {
        return made("refusal(" + kind + ", " + at + ")", wires.refusal(kind, at));
    }

    Run step(int kind, int at) {
        return made("step(" + kind + ", " + at + ")", wires.step(kind, at));
    }

    Run log(int back, int what) {
        return made("log(" + back + ", " + what + ")", wires.log(back, what));
    }

    Run plan(int section, int index) {
        return made("plan(" + section + ", " + index + ")", wires.plan(section, index));
    }

    Run canPlan(int section) {
        return made("canPlan(" + section + ")", wires.canPlan(section));
    }

    Run enter(int section, int tools, int until) {
        return made("enter(" + section + ", " + tools + ", " + until + ")", wires.enter(section, tools, until));
    }

    Run leave(int section, int tools) {
        return made("leave(" + section + ", " + tools + ")", wires.leave(section, tools));
    }

    Run fetch(int section) {
        return made("fetch(" + section + ")", wires.fetch(section));
    }

    Run pass(int minutes) {
        return made("pass(" + minutes + ")", wires.pass(minutes));
    }

    Run type(int character) {
        return made("type(" + character + ")", wires.type(character));
    }

    Run clearText() {
        return made("clearText()", wires.clearText());
    }

    Run fault(int what) {
        return made("fault(" + what + ")", wires.fault(what));
    }

    Run play() {
        return made("play()", wires.play());
    }

    /** Empties the text and types another one. */
    Run text(String text) {
        clearText();
        for (int i = 0; i < text.length(); i++) {
            type(text.charAt(i)).is(i + 1);
        }
        return this;
    }

    /** Types a text with a fault at this position for this reason. */
    void faulty(String text, int position, int reason) {
        text(text);
        fault(0).is(position);
        fault(1).is(reason);
    }

    void faultless(String text) {
        text(text);
        fault(0).is(NOT_FOUND);
        fault(1).is(NOT_FOUND);
    }

    /** Sections 0 (fed) - 1 - 2 .. , each of which needs 1 bus; isolator i joins i and i + 1. */
    static Run row(String sentence, int sections) {
        Run x = new Run(sentence);
        for (int i = 0; i < sections; i++) {
            x.section(1, i == 0 ? 1 : 0).is(i);
        }
        for (int i = 0; i + 1 < sections; i++) {
            x.isolator(i, i + 1).is(i);
        }
        return x;
    }

    /** The same row with all sections bridged and dead, since the feeder is off. */
    static Run deadRow(String sentence, int sections) {
        Run x = row(sentence, sections);
        for (int i = 0; i < sections; i++) {
            x.step(0, i).is(sections);
        }
        x.step(4, 0).is(0);
        return x;
    }

    /**
     * Ten sections 0 - 1 .. - 9, of which the last alone has a feeder, all bridged, and sixteen isolators: i joins
     * i and i + 1, and the last seven join 4 and 5.
     */
    static Run full(String sentence) {
        Run x = new Run(sentence);
        for (int i = 0; i < 10; i++) {
            x.section(1, i / 9).is(i);
            x.step(0, i);
        }
        for (int i = 0; i < 16; i++) {
            x.isolator(i < 9 ? i : 4, i < 9 ? i + 1 : 5).is(i);
        }
        x.count(4).is(10);
        return x;
    }

    /** Section 0 with a feeder, and section 1 without, bridged and with an earth; no isolator. */
    static Run earthed(String sentence) {
        Run x = new Run(sentence);
        x.section(1, 1).is(0);
        x.section(1, 0).is(1);
        x.step(0, 1).is(1);
        x.step(6, 1).is(1);
        return x;
    }

    /** The same, with tools that a gang left on section 1, and without the earth. */
    static Run withTools(String sentence, int tools) {
        Run x = earthed(sentence);
        x.enter(1, tools, 0).is(1);
        x.leave(1, 0).is(0);
        x.step(7, 1).is(1);
        return x;
    }

    /** All that can be asked of both objects is the same, now and after each undo of both. */
    void isLike(Run other) {
        compare(other);
        boolean more = true;
        for (int i = 0; i < 6 && more; i++) {
            undo().is(other.undo().answer);
            more = other.answer >= 0;
            other.isAny();
            compareShortly(other);
        }
    }

    private void compare(Run other) {
        int sections = other.count(0).answer;
        int isolators = other.count(1).answer;
        for (int i = 0; i < sections; i++) {
            for (int what = 0; what <= 10; what++) {
                sectionOf(i, what).is(other.sectionOf(i, what).answer);
                other.isAny();
            }
        }
        for (int i = 0; i < isolators; i++) {
            for (int what = 0; what <= 5; what++) {
                isolatorOf(i, what).is(other.isolatorOf(i, what).answer);
            }
        }
        for (int back = 0; back < Math.min(5, other.count(10).answer); back++) {
            for (int what = 0; what <= 2; what++) {
                log(back, what).is(other.log(back, what).answer);
            }
        }
        for (int what = 0; what <= 1; what++) {
            fault(what).is(other.fault(what).answer);
            other.isAny();
        }
        compareShortly(other);
    }

    private void compareShortly(Run other) {
        for (int what = 0; what <= 15; what++) {
            count(what).is(other.count(what).answer);
        }
    }
}

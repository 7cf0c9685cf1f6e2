/** Promises 18 to 21: the text, its fault, and playing it. */
public final class TextsTest {
    private static final int INVALID = TramWires.INVALID_ARGUMENT;
    private static final int NOT_POSSIBLE = TramWires.NOT_POSSIBLE;
    private static final int LIMIT = TramWires.LIMIT_REACHED;
    private static final int NOT_FOUND = TramWires.NOT_FOUND;

    public static void main(String[] args) {
        promise18Type();
        promise19ClearText();
        promise20Arguments();
        promise20EmptyAfterFault();
        promise20Form();
        promise20Places();
        promise20Refusals();
        promise20AfterStepsAhead();
        promise20FullText();
        promise21Play();
        promise21IsOneChange();
        promise21Times();
        promise21SecondWay();
        Check.end("TextsTest");
    }

    private static void due(String call, long got, long want) {
        Check.due(call, got, want);
    }

    /** Sections 0 (fed) - 1 - 2, needing 3, 4 and 5 buses. */
    private static TramWires row() {
        TramWires x = new TramWires();
        x.section(3, 1);
        x.section(4, 0);
        x.section(5, 0);
        x.isolator(0, 1);
        x.isolator(1, 2);
        return x;
    }

    private static void promise18Type() {
        TramWires x = new TramWires();
        int[] wrong = {31, 127, 0, -1, Integer.MIN_VALUE, Integer.MAX_VALUE};
        for (int w : wrong) {
            due("18: type(" + w + ")", x.type(w), INVALID);
        }
        due("18: type(32)", x.type(32), 1);
        due("18: type(126)", x.type(126), 2);
        for (int i = 3; i <= 60; i++) {
            due("18: type " + i, x.type(';'), i);
        }
        due("18: a sixty-first", x.type(';'), LIMIT);
        due("18: a sixty-first, wrong", x.type(31), INVALID);
        due("18: length", x.count(15), 60);
        due("18: no change", x.count(14), 0);
    }

    private static void promise19ClearText() {
        TramWires x = new TramWires();
        due("19: empty", x.clearText(), 0);
        Check.text(x, "b0;e");
        due("19: four", x.clearText(), 4);
        due("19: empty then", x.count(15), 0);
        due("19: empty again", x.clearText(), 0);
        due("19: no change", x.count(14), 0);
        due("19: typed anew", x.type('x'), 1);
    }

    private static void promise20Arguments() {
        TramWires x = row();
        int[] wrong = {-1, 2, Integer.MIN_VALUE, Integer.MAX_VALUE};
        for (int w : wrong) {
            due("20: fault(" + w + ") of an empty text", x.fault(w), INVALID);
        }
        due("20: empty", x.fault(0), NOT_FOUND);
        due("20: empty", x.fault(1), NOT_FOUND);
        x.type('x');
        due("20: what 2 with a fault", x.fault(2), INVALID);
        due("20: position", x.fault(0), 0);
        due("20: reason", x.fault(1), 1);
    }

    private static void promise20EmptyAfterFault() {
        TramWires x = row();
        Check.faulty(x, "x", 0, 1);
        x.clearText();
        due("20: emptied", x.fault(0), NOT_FOUND);
        due("20: emptied", x.fault(1), NOT_FOUND);
        due("21: emptied", x.play(), 0);
        Check.faulty(x, "b0;b0;", 3, 11);
        x.clearText();
        due("20: emptied again", x.fault(0), NOT_FOUND);
        due("21: emptied again", x.play(), 0);
    }

    private static void promise20Form() {
        String[] unformed = {";", "b", "b;", "b1", "b12", "b01", "1;", "b 1;", " b1;", "b1 ;", "B1;", "a1;", "b001;",
            "b1,", "b-1;", "b1x;", "bb;", "b/;", "b:;", "b1/;", "b1:;", "x99;", "~1;"};
        for (String text : unformed) {
            // One object for each text, since the document says nothing of calls after the 512th.
            TramWires x = row();
            Check.faulty(x, text, 0, 1);
            Check.faulty(x, "b0;" + text, 3, 1);
            Check.faulty(x, "b00;" + text, 4, 1);
        }
        TramWires x = row();
        Check.faultless(x, "b1;");
        Check.faultless(x, "b01;");
        Check.faulty(x, "b1; b2;", 3, 1);
        Check.faulty(x, "b1;;", 3, 1);
    }

    private static void promise20Places() {
        TramWires x = row();
        String[] nowhere = {"b3;", "t03;", "o2;", "c02;", "f3;", "n9;", "e10;", "u99;", "b11;", "b20;"};
        for (String text : nowhere) {
            Check.faulty(x, text, 0, 2);
            Check.faulty(x, "b0;" + text, 3, 2);
        }
        Check.faulty(x, "b3", 0, 1);
        x.isolator(0, 2);
        Check.faultless(x, "o2;");
        for (int i = 3; i < 12; i++) {
            x.isolator(0, 2);
        }
        Check.faultless(x, "o11;");
        Check.faulty(x, "o12;", 0, 2);
    }

    private static void promise20Refusals() {
        TramWires x = row();
        Check.faulty(x, "t0;", 0, 21);
        Check.faulty(x, "o0;", 0, 32);
        Check.faulty(x, "c0;", 0, 41);
        Check.faulty(x, "f1;", 0, 51);
        Check.faulty(x, "f0;", 0, 52);
        Check.faulty(x, "n0;", 0, 61);
        Check.faulty(x, "e0;", 0, 72);
        Check.faulty(x, "u0;", 0, 81);
        x.pool(4);
        Check.faulty(x, "b2;", 0, 12);
        Check.faultless(x, "b1;");
        due("20: a change ahead of it", x.step(0, 1), 3);
        due("20: for the wires as they are now", x.fault(1), 11);
        due("20: undone", x.undo(), 4);
        due("20: no fault again", x.fault(1), NOT_FOUND);
    }

    private static void promise20AfterStepsAhead() {
        TramWires x = row();
        x.pool(40);
        Check.faultless(x, "b2;o1;e2;");
        Check.faulty(x, "b2;o1;e2;c1;", 9, 42);
        Check.faulty(x, "b02;o01;e2;t2;", 11, 22);
        Check.faulty(x, "b2;b2;", 3, 11);
        Check.faulty(x, "b2;o1;o1;", 6, 31);
        Check.faulty(x, "b2;o1;e2;e2;", 9, 71);
        Check.faulty(x, "b2;o1;e2;u2;u2;", 12, 81);
        Check.faulty(x, "b0;b1;b2;f0;f0;", 12, 51);
        Check.faulty(x, "b0;b1;b2;f0;e1;n0;", 15, 62);
        Check.faultless(x, "b0;b1;b2;f0;e1;u1;n0;t1;");
        due("20: nothing was made", x.count(9) + x.count(5), 0);
        x.step(0, 2);
        x.step(2, 1);
        x.step(6, 2);
        x.enter(2, 5, 0);
        Check.faulty(x, "u2;", 0, 82);
        x.leave(2, 0);
        Check.faulty(x, "u2;c1;", 3, 43);
        x.section(1, 0);
        Check.faulty(x, "e3;", 0, 73);
        Check.faulty(x, "u2;b0;b1;f0;c1;n0;", 15, 63);
    }

    private static void promise20FullText() {
        TramWires x = new TramWires();
        x.section(1, 1);
        StringBuilder full = new StringBuilder();
        for (int i = 0; i < 10; i++) {
            full.append("b0;t0;");
        }
        Check.faultless(x, full.toString());
        due("20: twenty steps", x.play(), 20);
        Check.faulty(x, full.substring(0, 57) + "n0;", 57, 61);
        Check.faulty(x, full.substring(0, 57) + "t00", 57, 1);
        Check.faulty(x, full.substring(0, 57) + "t0", 57, 1);
    }

    private static void promise21Play() {
        TramWires x = row();
        Check.text(x, "b2;o1;e2;");
        due("21: three", x.play(), 3);
        due("21: the text stays", x.count(15), 9);
        due("21: bridged", x.sectionOf(2, 4), 1);
        due("21: open", x.isolatorOf(1, 2), 0);
        due("21: earth", x.sectionOf(2, 5), 1);
        due("21: live", x.count(4), 2);
        due("21: steps made", x.count(9), 3);
        due("21: latest", x.log(0, 0), 6);
        due("21: oldest", x.log(2, 0), 0);
        due("21: open in the second way", x.isolatorOf(1, 3), 0);
        due("21: has a fault now", x.play(), NOT_POSSIBLE);
        due("21: steps made", x.count(9), 3);
        Check.text(x, "u2;c1;x");
        due("21: a fault at the end", x.play(), NOT_POSSIBLE);
        due("21: nothing was made", x.sectionOf(2, 5), 1);
    }

    private static void promise21IsOneChange() {
        TramWires x = new TramWires();
        due("21: an empty text", x.play(), 0);
        due("21: is a change", x.count(14), 1);
        x.section(1, 1);
        Check.text(x, "b0;t0;b0;f0;");
        due("21: four", x.play(), 4);
        due("21: one change", x.count(14), 3);
        due("21: undo", x.undo(), 2);
        due("21: all four are undone", x.count(9) + x.count(5) + x.count(10), 0);
        due("21: live again", x.count(4), 1);
        due("21: the text stays", x.count(15), 12);
        due("21: undo", x.undo(), 1);
        due("21: undo of the empty one", x.undo(), 0);
        due("21: no more", x.undo(), NOT_POSSIBLE);
    }

    private static void promise21Times() {
        TramWires x = row();
        x.pass(8);
        Check.text(x, "b2;o1;");
        x.play();
        due("21: the time", x.log(0, 2), 8);
        due("21: the time", x.log(1, 2), 8);
        x.pass(1);
        Check.text(x, "c1;o1;c1;o1;c1;o1;c1;o1;c1;o1;c1;o1;c1;o1;c1;o1;c1;o1;c1;o1;");
        due("21: twenty", x.play(), 20);
        due("21: the log", x.count(10), 22);
        due("21: twenty more", x.play(), 20);
        due("21: the log is full", x.count(10), 24);
        due("21: steps made", x.count(9), 42);
        due("21: the oldest's time", x.log(23, 2), 9);
        due("21: dead in the second way", x.sectionOf(2, 3), 0);
        due("21: bridged stays", x.sectionOf(2, 4), 1);
        due("21: undo", x.undo(), 4);
        due("21: the oldest is back", x.log(21, 0), 0);
        due("21: its time", x.log(21, 2), 8);
    }

    private static void promise21SecondWay() {
        TramWires x = new TramWires();
        x.section(1, 0);
        x.section(1, 1);
        x.isolator(0, 1);
        x.isolator(0, 1);
        x.step(0, 0);
        x.step(0, 1);
        x.step(2, 0);
        x.step(4, 1);
        Check.text(x, "o1;c1;o1;c1;o1;c1;o1;c1;o1;c1;o1;c1;o1;c1;o1;c1;o1;c1;o1;c1;");
        due("21: twenty", x.play(), 20);
        due("21: the opening is in the log", x.log(21, 0), 2);
        due("21: twenty more", x.play(), 20);
        due("21: it has left the log", x.log(23, 1), 1);
        due("21: open by what was ahead", x.isolatorOf(0, 3), 0);
        due("21: closed by the log", x.isolatorOf(1, 3), 1);
        due("21: the feeder is off by what was ahead", x.sectionOf(1, 3), 0);
        due("21: the text has no fault", x.fault(0), NOT_FOUND);
    }
}

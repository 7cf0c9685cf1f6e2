/** Promises 18 to 21: a test for each sentence that has an edge. The form of a text is in TermsEdgesTest. */
public final class TextsEdgesTest {
    private static final int INVALID = Run.INVALID;
    private static final int NOT_POSSIBLE = Run.NOT_POSSIBLE;
    private static final int LIMIT = Run.LIMIT;
    private static final int NOT_FOUND = Run.NOT_FOUND;
    private static final int MIN = Run.MIN;
    private static final int MAX = Run.MAX;
    /** Ten times two steps, 60 characters. */
    private static final String FULL = "b1;t1;".repeat(10);

    public static void main(String[] args) {
        p18Character();
        p18Appends();
        p18Limit();
        p19Empties();
        p19LengthItHad();
        p19FullText();
        p20What();
        p20PositionAndReason();
        p20NoFault();
        p20Empty();
        p20FullText();
        p20TellsOnly();
        p21MakesAllSteps();
        p21TextStays();
        p21OneChange();
        p21AlsoIfThereAreNone();
        p21HowMany();
        p21FullText();
        p21WrapsTheLog();
        p21NotPossible();
        p21FullHistory();
        p21TimeOfItsSteps();
        Check.end("TextsEdgesTest");
    }

    private static void p18Character() {
        Run x = new Run("18: character: 32 to 126");
        for (int wrong : new int[] {MIN, -1, 0, 10, 31, 127, 128, 32 + 256, 32 + 65536, MAX}) {
            x.type(wrong).is(INVALID);
        }
        x.count(15).is(0);
        x.type(32).is(1);
        x.type(126).is(2);
    }

    private static void p18Appends() {
        Run x = Run.row("18: appends a character to the text; returns the length of the text", 2);
        String text = "b1;t1;x";
        int[] position = {0, 0, NOT_FOUND, 3, 3, NOT_FOUND, 6};
        for (int i = 0; i < text.length(); i++) {
            x.type(text.charAt(i)).is(i + 1);
            x.count(15).is(i + 1);
            x.fault(0).is(position[i]);
        }
    }

    private static void p18Limit() {
        Run x = Run.row("18: LIMIT_REACHED if it has 60 characters", 2);
        x.text(FULL.substring(0, 59));
        x.fault(0).is(57);
        x.type(';').is(60);
        x.type(';').is(LIMIT);
        x.type('b').is(LIMIT);
        x.type(32).is(LIMIT);
        x.type(126).is(LIMIT);
        x.count(15).is(60);
        x.fault(0).is(NOT_FOUND);
        x.clearText().is(60);
        x.type('b').is(1);
    }

    private static void p19Empties() {
        Run x = Run.row("19: empties the text", 2);
        x.text("x1;");
        x.fault(0).is(0);
        x.clearText().is(3);
        x.count(15).is(0);
        x.fault(0).is(NOT_FOUND);
        x.fault(1).is(NOT_FOUND);
        x.play().is(0);
        x.type('b').is(1);
        x.fault(1).is(1);
        x.type('1').is(2);
        x.fault(1).is(1);
        x.type(';').is(3);
        x.fault(1).is(NOT_FOUND);
    }

    private static void p19LengthItHad() {
        Run x = new Run("19: returns the length it had");
        x.clearText().is(0);
        x.type('b').is(1);
        x.clearText().is(1);
        x.clearText().is(0);
    }

    private static void p19FullText() {
        Run x = Run.row("19: of a full text", 2);
        x.text(FULL);
        x.clearText().is(60);
        x.text(FULL);
        x.play().is(20);
        x.clearText().is(60);
        x.clearText().is(0);
    }

    private static void p20What() {
        Run x = Run.row("20: what: 0 to 1", 2);
        for (int wrong : new int[] {MIN, -1, 2, 3, MAX}) {
            x.fault(wrong).is(INVALID);
        }
        x.text("b1;b1;");
        for (int wrong : new int[] {MIN, -1, 2, 3, MAX}) {
            x.fault(wrong).is(INVALID);
        }
        x.fault(0).is(3);
        x.fault(1).is(11);
    }

    private static void p20PositionAndReason() {
        Run x = Run.row("20: 0: its position; 1: its reason", 2);
        x.faulty("c0;", 0, 41);
        x.faulty("b1;b2;", 3, 2);
        x.faulty("b1;b0;b1", 6, 1);
        x.faulty("b1;o0;e1;n0;", 9, 61);
    }

    private static void p20NoFault() {
        Run x = Run.row("20: NOT_FOUND if the text has no fault", 2);
        x.faultless("b1;");
        x.faultless("b01;");
        x.faultless("b1;o0;e1;u1;c0;t1;b0;t0;");
    }

    private static void p20Empty() {
        Run x = new Run("20: NOT_FOUND also if it is empty");
        x.fault(0).is(NOT_FOUND);
        x.fault(1).is(NOT_FOUND);
        x.faulty("b0;", 0, 2);
        x.clearText();
        x.fault(0).is(NOT_FOUND);
        x.fault(1).is(NOT_FOUND);
    }

    private static void p20FullText() {
        Run x = Run.row("20: of a full text", 2);
        x.faultless(FULL);
        x.faulty(FULL.substring(0, 57) + "b1;", 57, 11);
        x.faulty(FULL.substring(0, 57) + "t01", 57, 1);
        x.faulty(FULL.substring(0, 57) + "t1:", 57, 1);
    }

    private static void p20TellsOnly() {
        Run x = Run.row("20: tells, and makes none of the steps", 2);
        x.faultless("b1;o0;e1;");
        x.faulty("b1;o0;e1;e1;", 9, 71);
        x.faulty("b1;o0;e1;e1;", 9, 71);
        x.count(5).is(0);
        x.count(4).is(2);
        x.count(9).is(0);
        x.count(14).is(3);
    }

    private static void p21MakesAllSteps() {
        Run x = Run.row("21: makes all steps of the text", 2);
        x.text("b1;o0;e1;").play().is(3);
        x.sectionOf(1, 4).is(1);
        x.isolatorOf(0, 2).is(0);
        x.isolatorOf(0, 3).is(0);
        x.sectionOf(1, 5).is(1);
        x.count(4).is(1);
        x.count(3).is(11);
        x.count(9).is(3);
        x.count(10).is(3);
        x.log(0, 0).is(6);
        x.log(1, 0).is(2);
        x.log(2, 0).is(0);
        x.enter(1, 1, 0).is(1);
    }

    private static void p21TextStays() {
        Run x = Run.row("21: the text stays", 2);
        x.text("b1;t1;").play().is(2);
        x.count(15).is(6);
        x.fault(0).is(NOT_FOUND);
        x.play().is(2);
        x.type('b').is(7);
        x.play().is(NOT_POSSIBLE);
        x.count(15).is(7);
        x.clearText().is(7);
    }

    private static void p21OneChange() {
        Run x = Run.row("21: they are one change", 2);
        x.text("b1;o0;e1;").play().is(3);
        x.count(14).is(4);
        x.undo().is(3);
        x.count(9).is(0);
        x.count(10).is(0);
        x.count(5).is(0);
        x.count(4).is(2);
        x.sectionOf(1, 5).is(0);
        x.isolatorOf(0, 3).is(1);
        x.play().is(3);
        x.count(14).is(4);
    }

    private static void p21AlsoIfThereAreNone() {
        Run x = new Run("21: one change, also if there are none");
        x.play().is(0);
        x.count(14).is(1);
        x.play().is(0);
        x.count(14).is(2);
        x.undo().is(1);
        x.undo().is(0);
        x.undo().is(NOT_POSSIBLE);
        x.count(9).is(0);
    }

    private static void p21HowMany() {
        Run x = Run.row("21: returns how many there are in it", 2);
        x.text("").play().is(0);
        x.text("b1;").play().is(1);
        x.text("t01;b01;").play().is(2);
        x.text("t1;b1;t1;").play().is(3);
    }

    private static void p21FullText() {
        Run x = Run.row("21: of a full text", 2);
        x.text(FULL).play().is(20);
        x.count(9).is(20);
        x.count(10).is(20);
        x.text("b01;t01;".repeat(7) + "b01;").play().is(15);
        x.count(9).is(35);
        x.sectionOf(1, 4).is(1);
    }

    private static void p21WrapsTheLog() {
        Run x = Run.row("21: more steps than the log keeps", 2);
        x.text("b1;o0;b0;f0;" + "e1;u1;".repeat(8)).play().is(20);
        x.log(19, 0).is(0);
        x.text("e1;u1;".repeat(10)).play().is(20);
        x.count(10).is(24);
        x.count(9).is(40);
        x.log(0, 0).is(7);
        x.log(23, 0).is(6);
        x.log(24, 0).is(NOT_FOUND);
        x.isolatorOf(0, 3).is(0);
        x.sectionOf(0, 3).is(0);
        x.undo();
        x.count(10).is(20);
        x.log(18, 0).is(2);
        x.isolatorOf(0, 3).is(0);
    }

    private static void p21NotPossible() {
        Run x = Run.row("21: NOT_POSSIBLE if it has a fault", 2);
        String[] faulty = {"x", "b1", "b2;", "t1;", "b1;b1;", "b1;o0;e1;c0;", "b1;;", "b1;t1; "};
        for (String text : faulty) {
            x.text(text).play().is(NOT_POSSIBLE);
            x.count(15).is(text.length());
            x.count(9).is(0);
            x.count(5).is(0);
            x.count(14).is(3);
        }
    }

    private static void p21FullHistory() {
        Run x = Run.row("21: drops one state of a full history", 2);
        x.text("b1;t1;");
        x.pass(1);
        x.pass(1);
        x.play().is(2);
        x.play().is(2);
        x.count(14).is(5);
        x.undo().is(4);
        x.count(9).is(2);
        x.undo().is(3);
        x.count(9).is(0);
        x.count(8).is(2);
        x.undo().is(2);
        x.undo().is(1);
        x.count(8).is(0);
        x.count(1).is(1);
        x.undo().is(0);
        x.count(1).is(0);
        x.undo().is(NOT_POSSIBLE);
    }

    private static void p21TimeOfItsSteps() {
        Run x = Run.row("21: its steps are written with the time now", 2);
        x.text("b1;t1;");
        x.pass(3);
        x.play().is(2);
        x.pass(4);
        x.play().is(2);
        x.log(0, 2).is(7);
        x.log(1, 2).is(7);
        x.log(2, 2).is(3);
        x.log(3, 2).is(3);
    }
}

/** Promises 9 to 13: a test for each sentence that has an edge. The reasons are in ReasonsEdgesTest. */
public final class StepsEdgesTest {
    private static final int INVALID = Run.INVALID;
    private static final int NOT_POSSIBLE = Run.NOT_POSSIBLE;
    private static final int NOT_FOUND = Run.NOT_FOUND;
    private static final int MIN = Run.MIN;
    private static final int MAX = Run.MAX;

    public static void main(String[] args) {
        p9Kind();
        p9At();
        p9NoneIfNotRefused();
        p9TellsOnly();
        p10Kind();
        p10At();
        p10LiveThen();
        p10NotPossible();
        p11Back();
        p11What();
        p11NotSoMany();
        p11WhereAndTime();
        p12Section();
        p12Index();
        p12BridgingIfItIsNot();
        p12FeederIfItIsOn();
        p12ClosedIsolatorsAscending();
        p12EarthIfItHasNone();
        p12RefusalsDoNotMatter();
        p12NotSoMany();
        p12LongestPlan();
        p12HundredTimesTheKind();
        p13Section();
        p13NoneIfTheFirstIsRefused();
        p13UntilOneIsRefused();
        p13AllOfThem();
        p13OneAfterTheOther();
        p13EmptyPlan();
        p13MakesNone();
        Check.end("StepsEdgesTest");
    }

    private static void p9Kind() {
        Run x = Run.row("9: kind: 0 to 7", 2);
        for (int wrong : new int[] {MIN, -1, 8, 9, MAX}) {
            x.refusal(wrong, 0).is(INVALID);
        }
        int[] due = {0, 21, 32, 41, 52, 61, 72, 81};
        for (int kind = 0; kind <= 7; kind++) {
            x.refusal(kind, 0).is(due[kind]);
        }
    }

    private static void p9At() {
        Run x = Run.row("9: at: number of the isolator (2, 3), or of the section", 3);
        for (int kind = 0; kind <= 7; kind++) {
            for (int wrong : new int[] {MIN, -1, 3, 10, 16, MAX}) {
                x.refusal(kind, wrong).is(INVALID);
            }
        }
        x.refusal(2, 2).is(INVALID);
        x.refusal(3, 2).is(INVALID);
        x.refusal(2, 1).is(32);
        x.refusal(3, 1).is(41);
        x.refusal(0, 2).is(0);
        x.refusal(1, 2).is(21);
        x.refusal(4, 2).is(51);
        x.refusal(5, 2).is(61);
        x.refusal(6, 2).is(72);
        x.refusal(7, 2).is(81);
        Run y = Run.row("9: at: an isolator with a number that no section has", 2);
        y.isolator(0, 1);
        y.isolator(0, 1);
        y.refusal(2, 2).is(0);
        y.refusal(3, 2).is(41);
        y.refusal(0, 2).is(INVALID);
        y.refusal(4, 2).is(INVALID);
    }

    private static void p9NoneIfNotRefused() {
        Run x = new Run("9: 0 if it is not refused");
        x.section(1, 1);
        x.section(1, 1);
        x.isolator(0, 1);
        int[][] steps = {{0, 0}, {0, 1}, {2, 0}, {4, 1}, {6, 1}, {7, 1}, {3, 0}, {5, 1}, {1, 1}};
        for (int[] s : steps) {
            x.refusal(s[0], s[1]).is(0);
            x.step(s[0], s[1]);
        }
    }

    private static void p9TellsOnly() {
        Run x = Run.row("9: tells, and makes nothing", 2);
        x.refusal(0, 1).is(0);
        x.refusal(0, 1).is(0);
        x.sectionOf(1, 4).is(0);
        x.step(0, 1);
        x.refusal(2, 0).is(0);
        x.isolatorOf(0, 2).is(1);
        x.count(4).is(2);
        x.count(9).is(1);
    }

    private static void p10Kind() {
        Run x = Run.row("10: kind: 0 to 7", 2);
        for (int wrong : new int[] {MIN, -1, 8, 9, MAX}) {
            x.step(wrong, 0).is(INVALID);
        }
        x.count(9).is(0);
        x.step(0, 0).is(2);
        x.step(0, 1).is(2);
        x.step(2, 0).is(1);
        x.step(6, 1).is(1);
        x.step(7, 1).is(1);
        x.count(9).is(5);
    }

    private static void p10At() {
        Run x = Run.row("10: at: number of the isolator (2, 3), or of the section", 3);
        for (int kind = 0; kind <= 7; kind++) {
            for (int wrong : new int[] {MIN, -1, 3, 10, 16, MAX}) {
                x.step(kind, wrong).is(INVALID);
            }
        }
        x.step(2, 2).is(INVALID);
        x.step(3, 2).is(INVALID);
        x.step(0, 2).is(3);
        x.step(2, 1).is(2);
        x.step(6, 2).is(2);
        x.count(9).is(3);
    }

    private static void p10LiveThen() {
        Run x = Run.row("10: returns how many sections are live then", 4);
        for (int i = 0; i < 4; i++) {
            x.step(0, i).is(4);
        }
        x.step(2, 2).is(3);
        x.step(2, 0).is(1);
        x.step(3, 2).is(1);
        x.step(3, 0).is(4);
        x.step(4, 0).is(0);
        x.step(6, 3).is(0);
        x.step(7, 3).is(0);
        x.step(5, 0).is(4);
        x.step(1, 3).is(4);
    }

    private static void p10NotPossible() {
        Run x = Run.row("10: NOT_POSSIBLE if refusal() is not 0", 2);
        for (int kind = 1; kind <= 7; kind++) {
            x.step(kind, 0).is(NOT_POSSIBLE);
        }
        x.step(0, 0).is(2);
        x.step(0, 0).is(NOT_POSSIBLE);
        x.pool(1);
        x.step(0, 1).is(NOT_POSSIBLE);
        x.count(9).is(1);
        x.count(5).is(1);
        x.count(4).is(2);
    }

    private static void p11Back() {
        Run x = Run.row("11: back: 0 for the latest one, and so on; INVALID_ARGUMENT if back is negative", 2);
        x.step(0, 0);
        x.step(0, 1);
        x.step(1, 0);
        x.log(0, 0).is(1);
        x.log(1, 0).is(0);
        x.log(1, 1).is(1);
        x.log(2, 1).is(0);
        x.log(-1, 0).is(INVALID);
        x.log(-1, 2).is(INVALID);
        x.log(MIN, 0).is(INVALID);
    }

    private static void p11What() {
        Run x = Run.row("11: what: 0 to 2", 2);
        x.pass(7);
        x.step(0, 1);
        for (int wrong : new int[] {MIN, -1, 3, 4, MAX}) {
            x.log(0, wrong).is(INVALID);
            x.log(1, wrong).is(INVALID);
        }
        x.log(0, 0).is(0);
        x.log(0, 1).is(1);
        x.log(0, 2).is(7);
    }

    private static void p11NotSoMany() {
        Run x = Run.row("11: NOT_FOUND if the log does not keep so many", 2);
        x.log(0, 0).is(NOT_FOUND);
        x.step(0, 1);
        x.log(0, 0).is(0);
        x.log(1, 0).is(NOT_FOUND);
        x.log(MAX, 0).is(NOT_FOUND);
        for (int i = 2; i <= 24; i++) {
            x.step(1 - i % 2, 1);
        }
        x.log(23, 0).is(0);
        x.log(24, 0).is(NOT_FOUND);
        x.step(0, 1);
        x.log(23, 0).is(1);
        x.log(24, 0).is(NOT_FOUND);
        x.undo();
        x.log(23, 0).is(0);
        x.log(24, 0).is(NOT_FOUND);
    }

    private static void p11WhereAndTime() {
        Run x = new Run("11: 1: where; 2: its time, at the last section and the end of time");
        for (int i = 0; i < 10; i++) {
            x.section(1, 1);
            x.pass(10000);
        }
        for (int i = 0; i < 16; i++) {
            x.isolator(8, 9);
        }
        x.step(2, 15).is(10);
        x.step(0, 9).is(10);
        x.log(0, 1).is(9);
        x.log(0, 2).is(100000);
        x.log(1, 0).is(2);
        x.log(1, 1).is(15);
    }

    private static void p12Section() {
        Run x = new Run("12: section: number of the section");
        x.plan(0, 0).is(INVALID);
        x.section(1, 0);
        x.section(1, 0);
        for (int wrong : new int[] {MIN, -1, 2, 10, MAX}) {
            x.plan(wrong, 0).is(INVALID);
            x.plan(wrong, MAX).is(INVALID);
        }
        x.plan(0, 0).is(0);
        x.plan(1, 0).is(1);
    }

    private static void p12Index() {
        Run x = Run.row("12: index: 0 for the first step, and so on; INVALID_ARGUMENT if index is negative", 2);
        x.plan(1, -1).is(INVALID);
        x.plan(1, MIN).is(INVALID);
        x.plan(1, 0).is(1);
        x.plan(1, 1).is(200);
        x.plan(1, 2).is(601);
        x.plan(1, 3).is(NOT_FOUND);
    }

    private static void p12BridgingIfItIsNot() {
        Run x = Run.row("12: bridging it, if it is not", 2);
        x.plan(1, 0).is(1);
        x.step(0, 0);
        x.plan(1, 0).is(1);
        x.step(0, 1);
        x.plan(1, 0).is(200);
        x.step(1, 1);
        x.plan(1, 0).is(1);
    }

    private static void p12FeederIfItIsOn() {
        Run x = Run.row("12: turning its feeder off, if it is on", 2);
        x.step(0, 0);
        x.step(0, 1);
        x.plan(0, 0).is(400);
        x.plan(1, 0).is(200);
        x.step(4, 0);
        x.plan(0, 0).is(200);
        x.step(5, 0);
        x.plan(0, 0).is(400);
    }

    private static void p12ClosedIsolatorsAscending() {
        Run x = Run.row("12: opening all closed isolators at it, ascending", 3);
        x.isolator(2, 0);
        x.isolator(1, 0);
        x.isolator(1, 2);
        for (int i = 0; i < 3; i++) {
            x.step(0, i);
        }
        int[] due = {200, 201, 203, 204, 601, NOT_FOUND};
        for (int i = 0; i < 6; i++) {
            x.plan(1, i).is(due[i]);
        }
        x.step(2, 1);
        x.step(2, 4);
        x.plan(1, 0).is(200);
        x.plan(1, 1).is(203);
        x.plan(1, 2).is(601);
        x.plan(1, 3).is(NOT_FOUND);
    }

    private static void p12EarthIfItHasNone() {
        Run x = Run.deadRow("12: earthing it, if it has no earth", 2);
        x.plan(1, 1).is(601);
        x.step(6, 1);
        x.plan(1, 0).is(200);
        x.plan(1, 1).is(NOT_FOUND);
        x.plan(0, 1).is(600);
        x.step(7, 1);
        x.plan(1, 1).is(601);
    }

    private static void p12RefusalsDoNotMatter() {
        Run x = Run.row("12: whether these steps would be refused does not matter", 3);
        x.pool(0);
        int[] due = {1, 200, 201, 601, NOT_FOUND};
        for (int i = 0; i < due.length; i++) {
            x.plan(1, i).is(due[i]);
        }
        x.canPlan(1).is(0);
    }

    private static void p12NotSoMany() {
        Run x = new Run("12: NOT_FOUND if there are not so many");
        x.section(1, 0);
        x.plan(0, 2).is(NOT_FOUND);
        x.plan(0, MAX).is(NOT_FOUND);
        x.plan(0, 1).is(600);
        x.step(0, 0);
        x.plan(0, 1).is(NOT_FOUND);
        x.step(6, 0);
        x.plan(0, 0).is(NOT_FOUND);
        x.section(1, 1);
        x.plan(1, 2).is(601);
        x.plan(1, 3).is(NOT_FOUND);
    }

    private static void p12LongestPlan() {
        Run x = new Run("12: a plan with sixteen isolators");
        for (int i = 0; i < 10; i++) {
            x.section(1, 1);
        }
        for (int i = 0; i < 16; i++) {
            x.isolator(9, i % 9);
        }
        x.plan(9, 0).is(9);
        x.plan(9, 1).is(409);
        for (int i = 0; i < 16; i++) {
            x.plan(9, 2 + i).is(200 + i);
        }
        x.plan(9, 18).is(609);
        x.plan(9, 19).is(NOT_FOUND);
        x.canPlan(9).is(19);
    }

    private static void p12HundredTimesTheKind() {
        Run x = new Run("12: returns 100 * (the kind) + (where)");
        for (int i = 0; i < 8; i++) {
            x.section(1, 1);
        }
        x.isolator(0, 1);
        x.isolator(7, 6);
        x.plan(7, 0).is(7);
        x.plan(7, 1).is(407);
        x.plan(7, 2).is(201);
        x.plan(7, 3).is(607);
    }

    private static void p13Section() {
        Run x = new Run("13: section: number of the section");
        x.canPlan(0).is(INVALID);
        x.section(1, 0);
        x.section(1, 0);
        for (int wrong : new int[] {MIN, -1, 2, 10, MAX}) {
            x.canPlan(wrong).is(INVALID);
        }
        x.canPlan(0).is(2);
        x.canPlan(1).is(2);
    }

    private static void p13NoneIfTheFirstIsRefused() {
        Run x = new Run("13: 0 if the first step is refused");
        x.section(9, 1);
        x.pool(8);
        x.canPlan(0).is(0);
        x.pool(9);
        x.canPlan(0).is(3);
        x.section(1, 0);
        x.isolator(0, 1);
        x.step(0, 0);
        x.canPlan(0).is(0);
    }

    private static void p13UntilOneIsRefused() {
        Run x = Run.row("13: how many steps can be made until one is refused", 3);
        x.canPlan(1).is(1);
        x.isolator(0, 2);
        x.canPlan(1).is(4);
        x.canPlan(2).is(4);
        x.canPlan(0).is(1);
        x.step(0, 1);
        x.step(0, 2);
        x.canPlan(0).is(5);
        x.pool(2);
        x.canPlan(0).is(0);
    }

    private static void p13AllOfThem() {
        Run x = Run.row("13: all of the plan, its earth included", 2);
        x.canPlan(1).is(3);
        x.step(0, 1);
        x.canPlan(1).is(2);
        x.step(2, 0);
        x.canPlan(1).is(1);
        x.step(6, 1);
        x.canPlan(1).is(0);
    }

    /** Each opening by itself would be possible, all of them are not while trams run behind. */
    private static void p13OneAfterTheOther() {
        Run x = Run.row("13: one after the other", 2);
        x.section(1, 0);
        x.isolator(1, 2);
        x.isolator(2, 1);
        x.isolator(1, 0);
        x.refusal(2, 1).is(0);
        x.refusal(2, 2).is(0);
        x.canPlan(1).is(3);
        x.step(0, 2);
        x.canPlan(1).is(6);
    }

    private static void p13EmptyPlan() {
        Run x = new Run("13: 0 of a plan without steps");
        x.section(1, 0);
        x.step(0, 0);
        x.canPlan(0).is(1);
        x.step(6, 0);
        x.canPlan(0).is(0);
        x.plan(0, 0).is(NOT_FOUND);
    }

    private static void p13MakesNone() {
        Run x = Run.row("13: tells, and makes none of them", 2);
        x.canPlan(1).is(3);
        x.canPlan(1).is(3);
        x.count(5).is(0);
        x.count(9).is(0);
        x.count(10).is(0);
        x.count(14).is(3);
        x.isolatorOf(0, 2).is(1);
        x.sectionOf(1, 5).is(0);
    }
}

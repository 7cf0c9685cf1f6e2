/** The document's "Steps": a test for each reason, for the order of the reasons, and for the log's edge. */
public final class ReasonsEdgesTest {
    private static final int NOT_POSSIBLE = Run.NOT_POSSIBLE;
    private static final int NOT_FOUND = Run.NOT_FOUND;

    public static void main(String[] args) {
        reason11();
        reason12();
        reason21();
        reason22();
        reason23();
        reason31();
        reason32();
        reason41();
        reason42();
        reason43();
        reason51();
        reason52();
        reason61();
        reason62();
        reason63();
        reason71();
        reason72();
        reason73();
        reason81();
        reason82();
        reasonsOfAFullNet();
        refusedForTheFirstReason();
        liveAlreadyDoesNotBecomeLive();
        deadAlreadyDoesNotBecomeDead();
        stepIsWrittenIntoTheLog();
        refusedStepIsNotWritten();
        logKeepsTheLatest24();
        Check.end("ReasonsEdgesTest");
    }

    /** Asks for the reason, then for the step, which is made if there is none. */
    private static void reason(Run x, int kind, int at, int due) {
        x.refusal(kind, at).is(due);
        int made = x.count(9).answer();
        x.step(kind, at);
        if (due == 0) {
            Check.due("step(" + kind + ", " + at + ") is made", x.answer() >= 0 ? 1 : 0, 1);
            x.isAny();
        } else {
            x.is(NOT_POSSIBLE);
        }
        x.count(9).is(due == 0 ? made + 1 : made);
    }

    private static void reason11() {
        Run x = Run.row("bridge: 11 it is bridged", 2);
        reason(x, 0, 1, 0);
        reason(x, 0, 1, 11);
        reason(x, 0, 0, 0);
        reason(x, 1, 1, 0);
        reason(x, 0, 1, 0);
    }

    private static void reason12() {
        Run x = new Run("bridge: 12 there are not so many free buses as it needs");
        x.section(5, 1);
        x.section(4, 1);
        x.pool(4);
        reason(x, 0, 0, 12);
        x.pool(5);
        reason(x, 0, 0, 0);
        reason(x, 0, 1, 12);
        x.pool(8);
        reason(x, 0, 1, 12);
        x.pool(9);
        reason(x, 0, 1, 0);
        x.pool(10);
        x.section(1, 1);
        reason(x, 0, 2, 0);
    }

    private static void reason21() {
        Run x = Run.row("let trams run: 21 it is run by trams", 2);
        reason(x, 1, 1, 21);
        reason(x, 0, 1, 0);
        reason(x, 1, 0, 21);
        reason(x, 1, 1, 0);
        reason(x, 1, 1, 21);
    }

    private static void reason22() {
        Run x = Run.deadRow("let trams run: 22 it is dead", 2);
        reason(x, 1, 0, 22);
        reason(x, 1, 1, 22);
        x.step(2, 0);
        x.step(5, 0);
        reason(x, 1, 1, 22);
        reason(x, 1, 0, 0);
        x.step(3, 0);
        reason(x, 1, 1, 0);
    }

    /** A section with tools can't become live: whoever lets trams run on it meets 22. */
    private static void reason23() {
        Run x = Run.withTools("let trams run: 23 tools are on it", 1);
        reason(x, 1, 1, 22);
        x.isolator(0, 1).is(NOT_POSSIBLE);
        x.fetch(1).is(1);
        x.isolator(0, 1).is(0);
        reason(x, 1, 1, 0);
    }

    private static void reason31() {
        Run x = Run.row("open: 31 it is open", 2);
        x.step(0, 1);
        reason(x, 2, 0, 0);
        reason(x, 2, 0, 31);
        reason(x, 3, 0, 0);
        reason(x, 2, 0, 0);
    }

    private static void reason32() {
        Run x = Run.row("open: 32 a section that is run by trams would become dead", 4);
        for (int i = 1; i < 4; i++) {
            reason(x, 2, 2, 32);
            reason(x, 2, 0, 32);
            x.step(0, i);
        }
        x.step(1, 1);
        reason(x, 2, 0, 32);
        reason(x, 2, 1, 0);
        reason(x, 2, 0, 32);
        x.step(0, 1);
        reason(x, 2, 0, 0);
        Run y = new Run("open: 32 with the section that would become dead as the isolator's first");
        y.section(1, 0);
        y.section(1, 1);
        y.isolator(0, 1);
        reason(y, 2, 0, 32);
        y.step(0, 0);
        reason(y, 2, 0, 0);
    }

    private static void reason41() {
        Run x = Run.row("close: 41 it is closed", 2);
        reason(x, 3, 0, 41);
        x.step(0, 1);
        x.step(2, 0);
        reason(x, 3, 0, 0);
        reason(x, 3, 0, 41);
    }

    private static void reason42() {
        Run x = Run.row("close: 42 a section with an earth would become live", 3);
        x.step(0, 1);
        x.step(0, 2);
        x.step(2, 0);
        x.step(6, 2);
        reason(x, 3, 0, 42);
        x.step(2, 1);
        reason(x, 3, 0, 0);
        reason(x, 3, 1, 42);
        x.step(7, 2);
        reason(x, 3, 1, 0);
        Run y = new Run("close: 42 with the earth on the isolator's first section");
        y.section(1, 0);
        y.section(1, 1);
        y.isolator(0, 1);
        y.step(0, 0);
        y.step(2, 0);
        y.step(6, 0);
        reason(y, 3, 0, 42);
    }

    private static void reason43() {
        Run x = Run.row("close: 43 a section with tools on it would become live", 3);
        x.step(0, 1);
        x.step(0, 2);
        x.step(2, 0);
        leaveOneTool(x, 2);
        reason(x, 3, 0, 43);
        x.step(2, 1);
        reason(x, 3, 0, 0);
        reason(x, 3, 1, 43);
        x.fetch(2);
        reason(x, 3, 1, 0);
    }

    private static void leaveOneTool(Run x, int section) {
        x.step(6, section);
        x.enter(section, 1, 0);
        x.leave(section, 0);
        x.step(7, section);
        x.sectionOf(section, 7).is(1);
    }

    private static void reason51() {
        Run x = Run.row("turn off: 51 there is none, or it is off", 2);
        reason(x, 4, 1, 51);
        x.step(0, 0);
        x.step(0, 1);
        reason(x, 4, 1, 51);
        reason(x, 4, 0, 0);
        reason(x, 4, 0, 51);
        reason(x, 5, 0, 0);
        reason(x, 4, 0, 0);
    }

    private static void reason52() {
        Run x = Run.row("turn off: 52 a section that is run by trams would become dead", 3);
        reason(x, 4, 0, 52);
        x.step(0, 0);
        reason(x, 4, 0, 52);
        x.step(0, 1);
        reason(x, 4, 0, 52);
        x.step(0, 2);
        x.step(1, 0);
        reason(x, 4, 0, 52);
        x.section(1, 1);
        x.isolator(3, 2);
        reason(x, 4, 0, 0);
        reason(x, 4, 3, 52);
    }

    private static void reason61() {
        Run x = Run.row("turn on: 61 there is none, or it is on", 2);
        reason(x, 5, 1, 61);
        reason(x, 5, 0, 61);
        x.step(0, 0);
        x.step(0, 1);
        x.step(4, 0);
        reason(x, 5, 1, 61);
        reason(x, 5, 0, 0);
        reason(x, 5, 0, 61);
    }

    private static void reason62() {
        Run x = Run.deadRow("turn on: 62 a section with an earth would become live", 3);
        x.step(6, 2);
        reason(x, 5, 0, 62);
        x.step(2, 1);
        reason(x, 5, 0, 0);
        x.step(4, 0);
        x.step(6, 0);
        reason(x, 5, 0, 62);
        x.step(7, 0);
        reason(x, 5, 0, 0);
    }

    private static void reason63() {
        Run x = Run.deadRow("turn on: 63 a section with tools on it would become live", 3);
        leaveOneTool(x, 2);
        reason(x, 5, 0, 63);
        x.step(2, 1);
        reason(x, 5, 0, 0);
        x.step(4, 0);
        leaveOneTool(x, 0);
        reason(x, 5, 0, 63);
        x.fetch(0);
        reason(x, 5, 0, 0);
    }

    private static void reason71() {
        Run x = Run.deadRow("earth: 71 it has an earth", 2);
        reason(x, 6, 1, 0);
        reason(x, 6, 1, 71);
        reason(x, 6, 0, 0);
        reason(x, 7, 1, 0);
        reason(x, 6, 1, 0);
    }

    private static void reason72() {
        Run x = Run.row("earth: 72 it is live", 2);
        x.step(0, 0);
        x.step(0, 1);
        reason(x, 6, 0, 72);
        reason(x, 6, 1, 72);
        x.step(2, 0);
        reason(x, 6, 0, 72);
        reason(x, 6, 1, 0);
    }

    private static void reason73() {
        Run x = new Run("earth: 73 it is run by trams");
        x.section(1, 0);
        reason(x, 6, 0, 73);
        x.step(0, 0);
        reason(x, 6, 0, 0);
    }

    private static void reason81() {
        Run x = Run.deadRow("take the earth off: 81 it has none", 2);
        reason(x, 7, 1, 81);
        x.step(6, 1);
        reason(x, 7, 0, 81);
        reason(x, 7, 1, 0);
        reason(x, 7, 1, 81);
    }

    private static void reason82() {
        Run x = Run.earthed("take the earth off: 82 a gang is there");
        x.enter(1, 0, 0);
        reason(x, 7, 1, 82);
        x.leave(1, 0);
        reason(x, 7, 1, 0);
        Run y = Run.deadRow("take the earth off: 82 not for a gang elsewhere", 2);
        y.step(6, 0);
        y.step(6, 1);
        y.enter(0, 2, 0);
        reason(y, 7, 0, 82);
        reason(y, 7, 1, 0);
    }

    private static void reasonsOfAFullNet() {
        Run x = Run.full("the reasons of ten sections and sixteen isolators");
        reason(x, 1, 0, 0);
        reason(x, 2, 8, 32);
        reason(x, 4, 9, 52);
        reason(x, 2, 15, 0);
        reason(x, 3, 15, 0);
        reason(x, 0, 0, 0);
        reason(x, 4, 9, 0);
        reason(x, 6, 0, 0);
        reason(x, 5, 9, 62);
        reason(x, 2, 8, 0);
        reason(x, 5, 9, 0);
        reason(x, 3, 8, 42);
        reason(x, 7, 0, 0);
        leaveOneTool(x, 0);
        reason(x, 3, 8, 43);
        reason(x, 4, 9, 0);
        reason(x, 3, 8, 0);
        reason(x, 5, 9, 63);
        x.fetch(0);
        leaveOneTool(x, 9);
        reason(x, 5, 9, 63);
        reason(x, 6, 9, 0);
        reason(x, 5, 9, 62);
        reason(x, 7, 9, 0);
        x.fetch(9);
        reason(x, 5, 9, 0);
    }

    private static void refusedForTheFirstReason() {
        Run x = Run.row("refused for the first of its reasons", 3);
        x.pool(2);
        x.step(0, 1);
        x.step(0, 2);
        reason(x, 0, 1, 11);
        reason(x, 6, 1, 72);
        reason(x, 6, 0, 72);
        x.step(2, 0);
        leaveOneTool(x, 1);
        reason(x, 1, 1, 22);
        x.step(6, 2);
        reason(x, 3, 0, 42);
        x.step(7, 2);
        x.step(6, 1);
        reason(x, 3, 0, 42);
        x.step(7, 1);
        reason(x, 3, 0, 43);
        x.section(1, 0);
        reason(x, 1, 3, 21);
        Run y = Run.deadRow("turning on is refused for the first of its reasons", 2);
        leaveOneTool(y, 0);
        y.step(6, 1);
        reason(y, 5, 0, 62);
        y.step(7, 1);
        reason(y, 5, 0, 63);
    }

    private static void liveAlreadyDoesNotBecomeLive() {
        Run x = Run.row("a section that is live already does not become live", 3);
        x.isolator(0, 2);
        x.step(0, 2);
        x.step(2, 1);
        x.isolatorOf(1, 5).is(0);
        reason(x, 3, 1, 0);
        x.step(2, 1);
        x.step(2, 2);
        x.isolatorOf(1, 5).is(1);
        x.isolatorOf(2, 5).is(1);
        x.step(6, 2);
        reason(x, 3, 1, 42);
        x.section(1, 1);
        x.step(0, 3);
        reason(x, 4, 3, 0);
        reason(x, 5, 3, 0);
        x.isolator(3, 0).is(3);
    }

    private static void deadAlreadyDoesNotBecomeDead() {
        Run x = new Run("one that is dead already does not become dead");
        x.section(1, 0);
        x.section(1, 0);
        x.section(1, 1);
        x.isolator(0, 1);
        x.isolatorOf(0, 4).is(0);
        reason(x, 2, 0, 0);
        x.step(0, 2);
        reason(x, 4, 2, 0);
        x.sectionOf(0, 4).is(0);
        x.sectionOf(0, 2).is(0);
    }

    private static void stepIsWrittenIntoTheLog() {
        Run x = new Run("a step that is made is written into the log");
        x.section(1, 1);
        x.section(1, 1);
        x.isolator(1, 0);
        int[][] steps = {{0, 1}, {0, 0}, {2, 0}, {4, 1}, {6, 1}, {7, 1}, {5, 1}, {3, 0}, {1, 1}};
        for (int i = 0; i < steps.length; i++) {
            x.pass(1);
            x.step(steps[i][0], steps[i][1]);
            x.count(10).is(i + 1);
            x.log(0, 0).is(steps[i][0]);
            x.log(0, 1).is(steps[i][1]);
            x.log(0, 2).is(i + 1);
        }
        x.log(8, 0).is(0);
        x.log(8, 1).is(1);
        x.log(9, 0).is(NOT_FOUND);
    }

    private static void refusedStepIsNotWritten() {
        Run x = Run.row("only a step that is made is written into the log", 2);
        x.step(1, 0).is(NOT_POSSIBLE);
        x.count(10).is(0);
        x.step(0, 1);
        x.step(0, 1).is(NOT_POSSIBLE);
        x.step(8, 1).is(Run.INVALID);
        x.refusal(2, 0).is(0);
        x.count(10).is(1);
        x.canPlan(1).is(2);
        x.count(10).is(1);
        x.log(1, 0).is(NOT_FOUND);
    }

    private static void logKeepsTheLatest24() {
        Run x = new Run("the log keeps the latest 24 steps");
        x.section(1, 1);
        x.section(1, 1);
        for (int i = 0; i < 50; i++) {
            x.count(10).is(Math.min(i, 24));
            x.log(23, 2);
            x.is(i < 24 ? NOT_FOUND : i - 24);
            x.log(24, 2).is(NOT_FOUND);
            x.step(i / 2 % 2, i % 2);
            x.pass(1);
        }
        for (int back = 0; back < 24; back++) {
            int i = 49 - back;
            x.log(back, 0).is(i / 2 % 2);
            x.log(back, 1).is(i % 2);
            x.log(back, 2).is(i);
        }
        x.count(9).is(50);
    }
}

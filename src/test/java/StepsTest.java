/** Promises 9 to 13: refusals, steps, the log and plans. */
public final class StepsTest {
    private static final int INVALID = TramWires.INVALID_ARGUMENT;
    private static final int NOT_POSSIBLE = TramWires.NOT_POSSIBLE;
    private static final int NOT_FOUND = TramWires.NOT_FOUND;

    public static void main(String[] args) {
        promise9Arguments();
        promise9Bridging();
        promise9Trams();
        promise9Opening();
        promise9Closing();
        promise9ClosingWithToolsAlone();
        promise9Feeders();
        promise9FeederWithTools();
        promise9Earths();
        promise10Step();
        promise10RefusedStepChangesNothing();
        promise11Log();
        promise12Plan();
        promise12PlanIgnoresRefusals();
        promise13CanPlan();
        Check.end("StepsTest");
    }

    private static void due(String call, long got, long want) {
        Check.due(call, got, want);
    }

    /** Sections 0 (fed) - 1 - 2, needing 3, 4 and 5 buses. */
    private static TramWires row() {
        TramWires x = new TramWires();
        x.section(3, 1);
        x.section(4, 0);
        x.section(5, 0);
        x.isolator(0, 1);
        x.isolator(1, 2);
        return x;
    }

    private static void leaveTools(TramWires x, int section) {
        due("an earth", x.refusal(6, section), 0);
        x.step(6, section);
        x.enter(section, 5, x.count(8));
        x.leave(section, 0);
        x.step(7, section);
    }

    private static void promise9Arguments() {
        TramWires x = row();
        int[][] wrong = {{-1, 0}, {8, 0}, {0, 3}, {0, -1}, {2, 2}, {3, 2}, {2, -1}, {4, 3}, {7, 3},
            {Integer.MIN_VALUE, 0}, {Integer.MAX_VALUE, 0}, {0, Integer.MAX_VALUE}, {3, Integer.MIN_VALUE}};
        for (int[] w : wrong) {
            String call = "(" + w[0] + ", " + w[1] + ")";
            due("9: refusal" + call, x.refusal(w[0], w[1]), INVALID);
            due("10: step" + call, x.step(w[0], w[1]), INVALID);
        }
        due("9: section 2 is there, isolator 2 is not", x.refusal(0, 2), 0);
        x.isolator(0, 2);
        x.isolator(0, 2);
        due("9: isolator 3 is there, section 3 is not", x.refusal(2, 3), 0);
        due("9: section 3 is not", x.refusal(0, 3), INVALID);
    }

    private static void promise9Bridging() {
        TramWires x = row();
        x.pool(8);
        due("9: enough", x.refusal(0, 2), 0);
        x.step(0, 2);
        due("9: bridged", x.refusal(0, 2), 11);
        due("9: 3 are free, 4 are needed", x.refusal(0, 1), 12);
        due("9: 3 are free, 3 are needed", x.refusal(0, 0), 0);
        x.step(0, 0);
        due("9: bridged goes ahead of the buses", x.refusal(0, 0), 11);
        x.step(1, 0);
        due("9: free again", x.refusal(0, 0), 0);
    }

    private static void promise9Trams() {
        TramWires x = row();
        due("9: by trams", x.refusal(1, 2), 21);
        x.step(0, 2);
        due("9: bridged and live", x.refusal(1, 2), 0);
        x.step(2, 1);
        due("9: dead", x.refusal(1, 2), 22);
        leaveTools(x, 2);
        due("9: dead goes ahead of tools", x.refusal(1, 2), 22);
    }

    private static void promise9Opening() {
        TramWires x = row();
        due("9: trams on 1 and 2", x.refusal(2, 0), 32);
        x.step(0, 1);
        due("9: trams on 2", x.refusal(2, 0), 32);
        due("9: trams on 2 behind 1", x.refusal(2, 1), 32);
        x.step(0, 2);
        due("9: no trams", x.refusal(2, 0), 0);
        x.step(2, 0);
        due("9: open", x.refusal(2, 0), 31);
        due("9: all dead already", x.refusal(2, 1), 0);
        x.step(3, 0);
        x.step(1, 2);
        x.isolator(0, 2);
        due("9: live the other way round", x.refusal(2, 0), 0);
        TramWires y = new TramWires();
        y.section(1, 0);
        y.section(1, 0);
        y.isolator(0, 1);
        due("9: dead with trams does not become dead", y.refusal(2, 0), 0);
        y.section(1, 1);
        y.isolator(2, 1);
        due("9: trams on the first section", y.refusal(2, 0), 32);
        y.step(0, 0);
        due("9: buses on the first section", y.refusal(2, 0), 0);
    }

    private static void promise9Closing() {
        TramWires x = row();
        due("9: closed", x.refusal(3, 0), 41);
        x.step(0, 1);
        x.step(0, 2);
        x.step(2, 0);
        due("9: nothing against it", x.refusal(3, 0), 0);
        leaveTools(x, 1);
        due("9: tools", x.refusal(3, 0), 43);
        x.step(6, 2);
        due("9: an earth goes ahead of tools", x.refusal(3, 0), 42);
        x.step(2, 1);
        due("9: the earth is not behind it now", x.refusal(3, 0), 43);
        due("9: among dead ones", x.refusal(3, 1), 0);
        x.fetch(1);
        due("9: tools are fetched", x.refusal(3, 0), 0);
        x.step(3, 0);
        due("9: an earth at it", x.refusal(3, 1), 42);
        x.step(7, 2);
        due("9: no earth", x.refusal(3, 1), 0);
    }

    private static void promise9ClosingWithToolsAlone() {
        TramWires x = row();
        x.step(0, 1);
        x.step(0, 2);
        x.step(2, 1);
        leaveTools(x, 2);
        due("9: tools at it", x.refusal(3, 1), 43);
        due("9: opening with tools", x.refusal(2, 0), 0);
        x.fetch(2);
        due("9: fetched", x.refusal(3, 1), 0);
    }

    private static void promise9Feeders() {
        TramWires x = row();
        due("9: none to turn off", x.refusal(4, 1), 51);
        due("9: none to turn on", x.refusal(5, 1), 61);
        due("9: on already", x.refusal(5, 0), 61);
        due("9: trams", x.refusal(4, 0), 52);
        x.step(0, 0);
        due("9: trams elsewhere", x.refusal(4, 0), 52);
        x.step(0, 1);
        x.step(0, 2);
        due("9: all three are bridged", x.sectionOf(2, 4), 1);
        due("9: no trams", x.refusal(4, 0), 0);
        x.step(4, 0);
        due("9: off already", x.refusal(4, 0), 51);
        due("9: on again", x.refusal(5, 0), 0);
        x.step(6, 2);
        due("9: an earth far away", x.refusal(5, 0), 62);
        x.step(2, 1);
        due("9: cut off", x.refusal(5, 0), 0);
        TramWires y = new TramWires();
        y.section(1, 1);
        y.section(1, 1);
        y.isolator(0, 1);
        due("9: fed by the other", y.refusal(4, 0), 0);
        y.step(4, 0);
        due("9: the last one", y.refusal(4, 1), 52);
        due("9: the last one after the first", y.step(4, 1), NOT_POSSIBLE);
    }

    private static void promise9FeederWithTools() {
        TramWires x = row();
        x.step(0, 0);
        x.step(0, 1);
        x.step(0, 2);
        x.step(4, 0);
        leaveTools(x, 1);
        due("9: tools", x.refusal(5, 0), 63);
        x.step(6, 0);
        due("9: an earth goes ahead of tools", x.refusal(5, 0), 62);
        x.step(7, 0);
        x.fetch(1);
        due("9: nothing against it", x.refusal(5, 0), 0);
    }

    private static void promise9Earths() {
        TramWires x = row();
        due("9: none to take", x.refusal(7, 2), 81);
        due("9: live goes ahead of trams", x.refusal(6, 2), 72);
        x.step(0, 2);
        due("9: live", x.refusal(6, 2), 72);
        x.step(2, 1);
        due("9: dead and bridged", x.refusal(6, 2), 0);
        x.step(6, 2);
        due("9: an earth", x.refusal(6, 2), 71);
        due("9: to be taken", x.refusal(7, 2), 0);
        x.enter(2, 0, 0);
        due("9: a gang", x.refusal(7, 2), 82);
        due("9: the step of it", x.step(7, 2), NOT_POSSIBLE);
        x.leave(2, 0);
        due("9: no gang", x.refusal(7, 2), 0);
        x.section(1, 0);
        due("9: dead with trams", x.refusal(6, 3), 73);
    }

    private static void promise10Step() {
        TramWires x = row();
        due("10: bridging", x.step(0, 2), 3);
        due("10: is bridged", x.sectionOf(2, 4), 1);
        due("10: trams", x.step(1, 2), 3);
        due("10: is run by trams", x.sectionOf(2, 4), 0);
        x.step(0, 2);
        due("10: opening", x.step(2, 1), 2);
        due("10: is open", x.isolatorOf(1, 2), 0);
        due("10: earth", x.step(6, 2), 2);
        due("10: has an earth", x.sectionOf(2, 5), 1);
        due("10: earth away", x.step(7, 2), 2);
        due("10: has none", x.sectionOf(2, 5), 0);
        due("10: closing", x.step(3, 1), 3);
        due("10: is closed", x.isolatorOf(1, 2), 1);
        x.step(0, 1);
        x.step(0, 0);
        due("10: feeder off", x.step(4, 0), 0);
        due("10: is off", x.sectionOf(0, 1), 1);
        due("10: feeder on", x.step(5, 0), 3);
        due("10: is on", x.sectionOf(0, 1), 2);
        due("10: steps made", x.count(9), 11);
        due("10: each is a change", x.count(14), 5);
        due("10: undo", x.undo(), 4);
        due("10: off again", x.sectionOf(0, 1), 1);
    }

    private static void promise10RefusedStepChangesNothing() {
        TramWires x = row();
        int states = x.count(14);
        int[][] refused = {{1, 0}, {2, 0}, {3, 0}, {4, 0}, {4, 1}, {5, 0}, {6, 0}, {7, 0}};
        for (int[] r : refused) {
            due("10: step(" + r[0] + ", " + r[1] + ")", x.step(r[0], r[1]), NOT_POSSIBLE);
        }
        x.pool(2);
        due("10: too few buses", x.step(0, 0), NOT_POSSIBLE);
        x.undo();
        due("10: no steps", x.count(9) + x.count(10), 0);
        due("10: no states", x.count(14), states - 1);
        due("10: all live", x.count(4), 3);
        due("10: none bridged", x.count(5), 0);
    }

    private static void promise11Log() {
        TramWires x = row();
        due("11: empty", x.log(0, 0), NOT_FOUND);
        due("11: empty and wrong", x.log(0, 3), INVALID);
        for (int i = 0; i < 30; i++) {
            int kind = i % 2;
            x.pass(1);
            due("11: step " + i, x.step(kind, i / 2 % 2), 3);
            due("11: length " + i, x.count(10), Math.min(24, i + 1));
            due("11: made " + i, x.count(9), i + 1);
        }
        for (int back = 0; back < 24; back++) {
            int i = 29 - back;
            due("11: kind " + back, x.log(back, 0), i % 2);
            due("11: where " + back, x.log(back, 1), i / 2 % 2);
            due("11: time " + back, x.log(back, 2), i + 1);
        }
        due("11: not so many", x.log(24, 0), NOT_FOUND);
        due("11: far fewer", x.log(Integer.MAX_VALUE, 2), NOT_FOUND);
        due("11: negative", x.log(-1, 0), INVALID);
        due("11: MIN", x.log(Integer.MIN_VALUE, 0), INVALID);
        due("11: what 3", x.log(0, 3), INVALID);
        due("11: what -1", x.log(0, -1), INVALID);
        due("11: wrong goes ahead of not found", x.log(24, 3), INVALID);
        x.step(5, 0);
        due("11: refused ones are not written", x.log(0, 2), 30);
    }

    private static void promise12Plan() {
        TramWires x = row();
        x.section(1, 1);
        x.isolator(3, 1);
        x.isolator(0, 3);
        x.isolator(1, 3);
        int[] plan = {3, 403, 202, 203, 204, 603};
        for (int i = 0; i < plan.length; i++) {
            due("12: plan(3, " + i + ")", x.plan(3, i), plan[i]);
        }
        due("12: not so many", x.plan(3, 6), NOT_FOUND);
        due("12: far fewer", x.plan(3, Integer.MAX_VALUE), NOT_FOUND);
        due("12: negative", x.plan(3, -1), INVALID);
        due("12: MIN", x.plan(3, Integer.MIN_VALUE), INVALID);
        due("12: no section 4", x.plan(4, 0), INVALID);
        due("12: no section -1", x.plan(-1, 99), INVALID);
        x.step(0, 3);
        due("12: bridged", x.plan(3, 0), 403);
        x.step(4, 3);
        due("12: off", x.plan(3, 0), 202);
        x.step(2, 3);
        due("12: one is open", x.plan(3, 1), 204);
        x.step(2, 2);
        x.step(2, 4);
        due("12: the earth", x.plan(3, 0), 603);
        due("12: the earth is the last", x.plan(3, 1), NOT_FOUND);
        x.step(6, 3);
        due("12: nothing is left", x.plan(3, 0), NOT_FOUND);
        due("12: none can be made", x.canPlan(3), 0);
    }

    private static void promise12PlanIgnoresRefusals() {
        TramWires x = row();
        x.pool(0);
        due("12: without buses", x.plan(1, 0), 1);
        due("12: with trams behind", x.plan(1, 1), 200);
        due("12: the other", x.plan(1, 2), 201);
        due("12: live", x.plan(1, 3), 601);
        due("12: no feeder", x.plan(1, 4), NOT_FOUND);
        TramWires y = new TramWires();
        y.section(1, 1);
        y.section(1, 1);
        for (int i = 0; i < 16; i++) {
            y.isolator(0, 1);
        }
        due("12: sixteen isolators", y.plan(1, 17), 215);
        due("12: the nineteenth", y.plan(1, 18), 601);
        due("12: not a twentieth", y.plan(1, 19), NOT_FOUND);
        due("12: all can be made", y.canPlan(1), 19);
    }

    private static void promise13CanPlan() {
        TramWires x = row();
        due("13: no section", x.canPlan(3), INVALID);
        due("13: section -1", x.canPlan(-1), INVALID);
        due("13: section MIN", x.canPlan(Integer.MIN_VALUE), INVALID);
        due("13: the last in the row", x.canPlan(2), 3);
        due("13: trams behind it", x.canPlan(1), 1);
        due("13: the feeder", x.canPlan(0), 1);
        x.step(0, 2);
        due("13: no trams behind it", x.canPlan(1), 4);
        x.pool(8);
        due("13: too few buses", x.canPlan(1), 0);
        x.pool(9);
        due("13: just enough", x.canPlan(1), 4);
        int states = x.count(14);
        due("13: changes nothing", x.count(9), 1);
        due("13: not bridged", x.sectionOf(1, 4), 0);
        due("13: all live", x.count(4), 3);
        due("13: states", x.count(14), states);
        TramWires y = new TramWires();
        y.section(1, 0);
        y.section(1, 1);
        y.isolator(0, 1);
        y.step(0, 0);
        due("13: opens, then earths", y.canPlan(0), 2);
        y.isolator(0, 1);
        due("13: opens both, then earths", y.canPlan(0), 3);
    }
}

import java.util.Random;
import java.util.TreeMap;

/** All promises: runs of 512 drawn calls, each answer held against PlainModel's. */
public final class PlainModelTest {
    private static final int RUNS = 3000;
    private static final int CALLS = 512;
    private static final int MOST_IN_A_DRAW = 8;
    private static final int MOST_SHOWN = 20;
    private static final int[] FAR = {Integer.MIN_VALUE, Integer.MIN_VALUE + 1, -100001, -17, -2, -1,
        0, 1, 2, 9, 10, 11, 15, 16, 17, 23, 24, 40, 41, 50, 51, 60, 61, 99, 100, 126, 127, 10000, 10001,
        100000, 100001, Integer.MAX_VALUE - 1, Integer.MAX_VALUE};
    private static final String LETTERS = "btocfneu";
    private static final int[] REASONS = {11, 12, 21, 22, 23, 31, 32, 41, 42, 43, 51, 52, 61, 62, 63, 71, 72, 73,
        81, 82};
    // 23: a section with tools can't become live, so none is live, bridged and has tools.
    private static final int NEVER = 23;

    private final Random random;
    private final TramWires wires = new TramWires();
    private final PlainModel model = new PlainModel();
    private final StringBuilder calls = new StringBuilder();
    private int asked;
    private int wrong;
    private String pending = "";

    private static final TreeMap<String, Integer> SEEN = new TreeMap<>();

    private PlainModelTest(long seed) {
        random = new Random(seed);
    }

    public static void main(String[] args) {
        int runs = args.length > 0 ? Integer.parseInt(args[0]) : RUNS;
        int bad = 0;
        for (int run = 0; run < runs && bad < MOST_SHOWN; run++) {
            PlainModelTest test = new PlainModelTest(run);
            test.go();
            if (test.wrong > 0) {
                bad++;
                System.out.println("run " + run + ": " + test.calls);
            }
        }
        Check.due("runs that differ from the plain model", bad, 0);
        for (int reason : REASONS) {
            int due = reason == NEVER ? 0 : 1;
            Check.due("refusal " + reason + " came up", SEEN.getOrDefault("refusal " + reason, 0) > 0 ? 1 : 0, due);
            Check.due("fault " + reason + " came up", SEEN.getOrDefault("fault " + reason, 0) > 0 ? 1 : 0, due);
        }
        for (String call : new String[] {"section", "isolator", "pool", "undo", "step", "log", "plan", "enter",
            "leave", "fetch", "pass", "type", "play", "fault"}) {
            Check.due(call + " was made", SEEN.getOrDefault(call + " made", 0) > 0 ? 1 : 0, 1);
            Check.due(call + " was refused", SEEN.getOrDefault(call + " refused", 0) > 0 ? 1 : 0, 1);
        }
        if (args.length > 0) {
            System.out.println(SEEN);
        }
        Check.end("PlainModelTest");
    }

    private void go() {
        int first = random.nextInt(12);
        for (int i = 0; i < first; i++) {
            section(1 + random.nextInt(9), random.nextInt(3) == 0 ? 1 : 0);
        }
        int net = random.nextInt(18);
        for (int i = 0; i < net; i++) {
            isolator(random.nextInt(10), random.nextInt(10));
        }
        if (random.nextBoolean()) {
            pool(40);
        }
        while (asked + MOST_IN_A_DRAW <= CALLS && wrong == 0) {
            draw();
        }
        while (asked < CALLS && wrong == 0) {
            drawQuestion();
        }
        Check.due("calls after the 512th", Math.max(0, asked - CALLS), 0);
    }

    private void draw() {
        int p = random.nextInt(100);
        if (p < 34) {
            drawStep();
        } else if (p < 46) {
            drawGang();
        } else if (p < 62) {
            drawText();
        } else if (p < 66) {
            undo();
        } else if (p < 69) {
            drawNet();
        } else if (p < 72) {
            pass(random.nextInt(30) == 0 ? 10000 : 1 + random.nextInt(20));
        } else if (p < 74) {
            drawFar();
        } else {
            drawQuestion();
        }
    }

    private int someSection() {
        int all = Math.max(1, model.count(0));
        return random.nextInt(40) == 0 ? random.nextInt(12) - 1 : random.nextInt(all);
    }

    private int someIsolator() {
        int all = Math.max(1, model.count(1));
        return random.nextInt(40) == 0 ? random.nextInt(18) - 1 : random.nextInt(all);
    }

    private void drawStep() {
        int kind = random.nextInt(8);
        int at = kind == 2 || kind == 3 ? someIsolator() : someSection();
        // Most steps shall be made, and a refused one asked for its reason.
        for (int i = 0; i < 12 && model.refusal(kind, at) != 0; i++) {
            kind = random.nextInt(8);
            at = kind == 2 || kind == 3 ? someIsolator() : someSection();
        }
        if (random.nextInt(4) == 0) {
            refusal(kind, at);
        }
        step(kind, at);
        if (random.nextInt(6) == 0) {
            int section = someSection();
            refusal(random.nextInt(8), section);
        }
    }

    private void drawGang() {
        int s = someSection();
        for (int i = 0; i < 8 && model.sectionOf(s, 5) != 1; i++) {
            s = someSection();
        }
        int p = random.nextInt(5);
        if (p < 2) {
            enter(s, random.nextInt(52), Math.max(0, model.count(8) - 1 + random.nextInt(30)));
        } else if (p < 4) {
            leave(s, random.nextInt(4) == 0 ? random.nextInt(52) : random.nextInt(6));
        } else {
            fetch(s);
            if (random.nextBoolean()) {
                fetch(someSection());
            }
        }
    }

    /** Types a step at a time, most of which can be made after those ahead of them. */
    private void drawText() {
        int p = random.nextInt(10);
        if (p < 5) {
            int kind = random.nextInt(8);
            int at = kind == 2 || kind == 3 ? someIsolator() : someSection();
            for (int i = 0; i < 6 && model.refusal(kind, at) != 0; i++) {
                kind = random.nextInt(8);
                at = kind == 2 || kind == 3 ? someIsolator() : someSection();
            }
            at = Math.max(0, at);
            pending = LETTERS.charAt(kind) + (at < 10 && random.nextInt(4) == 0 ? "0" : "") + at + ";";
            if (random.nextInt(12) == 0) {
                int where = random.nextInt(pending.length());
                pending = pending.substring(0, where) + (char) (32 + random.nextInt(95)) + pending.substring(where);
            }
            for (int i = 0; i < pending.length() && asked < CALLS; i++) {
                type(pending.charAt(i));
            }
        } else if (p < 7) {
            fault(random.nextInt(2));
            fault(1);
        } else if (p < 9) {
            play();
        } else {
            clearText();
        }
        if (model.fault(0) >= 0 && random.nextInt(3) == 0) {
            fault(0);
            fault(1);
            clearText();
        }
    }

    private void drawNet() {
        int p = random.nextInt(3);
        if (p == 0) {
            section(1 + random.nextInt(9), random.nextInt(2));
        } else if (p == 1) {
            isolator(someSection(), someSection());
        } else {
            pool(random.nextInt(43) - 1);
        }
    }

    private int far() {
        return FAR[random.nextInt(FAR.length)];
    }

    private void drawFar() {
        switch (random.nextInt(17)) {
            case 0 -> section(far(), far());
            case 1 -> isolator(far(), far());
            case 2 -> pool(far());
            case 3 -> sectionOf(far(), far());
            case 4 -> isolatorOf(far(), far());
            case 5 -> count(far());
            case 6 -> refusal(far(), far());
            case 7 -> step(far(), far());
            case 8 -> log(far(), far());
            case 9 -> plan(far(), far());
            case 10 -> canPlan(far());
            case 11 -> enter(far(), far(), far());
            case 12 -> leave(far(), far());
            case 13 -> fetch(far());
            case 14 -> pass(far());
            case 15 -> type(far());
            default -> fault(far());
        }
    }

    private void drawQuestion() {
        switch (random.nextInt(8)) {
            case 0, 1 -> sectionOf(someSection(), random.nextInt(13) - 1);
            case 2, 3 -> isolatorOf(someIsolator(), random.nextInt(8) - 1);
            case 4 -> count(random.nextInt(18) - 1);
            case 5 -> log(random.nextInt(27) - 1, random.nextInt(5) - 1);
            case 6 -> plan(someSection(), random.nextInt(10) - 1);
            default -> canPlan(someSection());
        }
    }

    private void same(String name, String arguments, int got, int due) {
        asked++;
        calls.append(name).append('(').append(arguments).append(") ");
        if (got != due) {
            wrong++;
            calls.append("answered ").append(got).append(", due is ").append(due);
        }
        SEEN.merge(name + (due < 0 ? " refused" : " made"), 1, Integer::sum);
        if (name.equals("refusal") || name.equals("fault") && arguments.equals("1")) {
            SEEN.merge(name + " " + due, 1, Integer::sum);
        }
    }

    private void section(int a, int b) {
        same("section", a + ", " + b, wires.section(a, b), model.section(a, b));
    }

    private void isolator(int a, int b) {
        same("isolator", a + ", " + b, wires.isolator(a, b), model.isolator(a, b));
    }

    private void pool(int a) {
        same("pool", "" + a, wires.pool(a), model.pool(a));
    }

    private void sectionOf(int a, int b) {
        same("sectionOf", a + ", " + b, wires.sectionOf(a, b), model.sectionOf(a, b));
    }

    private void isolatorOf(int a, int b) {
        same("isolatorOf", a + ", " + b, wires.isolatorOf(a, b), model.isolatorOf(a, b));
    }

    private void count(int a) {
        same("count", "" + a, wires.count(a), model.count(a));
    }

    private void undo() {
        same("undo", "", wires.undo(), model.undo());
    }

    private void refusal(int a, int b) {
        same("refusal", a + ", " + b, wires.refusal(a, b), model.refusal(a, b));
    }

    private void step(int a, int b) {
        same("step", a + ", " + b, wires.step(a, b), model.step(a, b));
    }

    private void log(int a, int b) {
        same("log", a + ", " + b, wires.log(a, b), model.log(a, b));
    }

    private void plan(int a, int b) {
        same("plan", a + ", " + b, wires.plan(a, b), model.plan(a, b));
    }

    private void canPlan(int a) {
        same("canPlan", "" + a, wires.canPlan(a), model.canPlan(a));
    }

    private void enter(int a, int b, int c) {
        same("enter", a + ", " + b + ", " + c, wires.enter(a, b, c), model.enter(a, b, c));
    }

    private void leave(int a, int b) {
        same("leave", a + ", " + b, wires.leave(a, b), model.leave(a, b));
    }

    private void fetch(int a) {
        same("fetch", "" + a, wires.fetch(a), model.fetch(a));
    }

    private void pass(int a) {
        same("pass", "" + a, wires.pass(a), model.pass(a));
    }

    private void type(int a) {
        same("type", "" + a, wires.type(a), model.type(a));
    }

    private void clearText() {
        same("clearText", "", wires.clearText(), model.clearText());
    }

    private void fault(int a) {
        same("fault", "" + a, wires.fault(a), model.fault(a));
    }

    private void play() {
        same("play", "", wires.play(), model.play());
    }
}

/** Promises 14 to 17: gangs, tools and time. */
public final class GangsTest {
    private static final int INVALID = TramWires.INVALID_ARGUMENT;
    private static final int NOT_POSSIBLE = TramWires.NOT_POSSIBLE;
    private static final int LIMIT = TramWires.LIMIT_REACHED;

    public static void main(String[] args) {
        promise14Enter();
        promise15Leave();
        promise15ToolsAddUp();
        promise16Fetch();
        promise16FetchFromLive();
        promise17Pass();
        Check.end("GangsTest");
    }

    private static void due(String call, long got, long want) {
        Check.due(call, got, want);
    }

    /** Sections 0, 1 and 2 without feeders, of which 0 and 1 are bridged and have an earth. */
    private static TramWires earthed() {
        TramWires x = new TramWires();
        for (int i = 0; i < 3; i++) {
            x.section(1, 0);
        }
        for (int i = 0; i < 2; i++) {
            x.step(0, i);
            x.step(6, i);
        }
        return x;
    }

    private static void promise14Enter() {
        TramWires x = earthed();
        x.pass(20);
        int[][] wrong = {{-1, 0, 30}, {3, 0, 30}, {0, -1, 30}, {0, 51, 30}, {0, 0, 19}, {0, 0, 100001},
            {Integer.MIN_VALUE, 0, 30}, {0, Integer.MAX_VALUE, 30}, {0, 0, Integer.MIN_VALUE},
            {0, 0, Integer.MAX_VALUE}, {2, 51, 30}};
        for (int[] w : wrong) {
            due("14: enter(" + w[0] + ", " + w[1] + ", " + w[2] + ")", x.enter(w[0], w[1], w[2]), INVALID);
        }
        due("14: no earth", x.enter(2, 0, 30), NOT_POSSIBLE);
        due("14: nobody came", x.count(6), 0);
        due("14: the first", x.enter(0, 50, 20), 1);
        due("14: a gang is there", x.enter(0, 0, 30), NOT_POSSIBLE);
        due("14: the time stays", x.sectionOf(0, 10), 20);
        due("14: the second", x.enter(1, 0, 100000), 2);
        due("14: its time", x.sectionOf(1, 10), 100000);
        due("14: undo", x.undo(), 4);
        due("14: one gang", x.count(6), 1);
    }

    private static void promise15Leave() {
        TramWires x = earthed();
        due("15: nobody", x.leave(0, 0), NOT_POSSIBLE);
        due("15: nobody, wrong tools", x.leave(0, 51), INVALID);
        x.enter(0, 5, 10);
        int[][] wrong = {{-1, 0}, {3, 0}, {0, -1}, {0, 51}, {Integer.MAX_VALUE, 0}, {0, Integer.MIN_VALUE}};
        for (int[] w : wrong) {
            due("15: leave(" + w[0] + ", " + w[1] + ")", x.leave(w[0], w[1]), INVALID);
        }
        due("15: it brought fewer", x.leave(0, 6), NOT_POSSIBLE);
        due("15: not late", x.leave(0, 5), 0);
        due("15: took all", x.sectionOf(0, 7), 0);
        due("15: gone", x.sectionOf(0, 6), 0);
        due("15: nobody again", x.leave(0, 0), NOT_POSSIBLE);
        x.enter(0, 5, 10);
        x.pass(10);
        due("15: at its time", x.leave(0, 3), 0);
        due("15: left two", x.sectionOf(0, 7), 2);
        x.enter(0, 0, 12);
        x.pass(3);
        due("15: may not take what others left", x.leave(0, 1), NOT_POSSIBLE);
        due("15: late by one", x.leave(0, 0), 1);
        x.enter(0, 1, 13);
        x.pass(100);
        due("15: late by a hundred", x.leave(0, 1), 100);
        due("15: all late minutes", x.count(11), 101);
        due("15: undo", x.undo(), 4);
        due("15: the gang is back", x.sectionOf(0, 10), 13);
        due("15: late minutes then", x.count(11), 1);
    }

    private static void promise15ToolsAddUp() {
        TramWires x = earthed();
        x.enter(0, 50, 0);
        x.leave(0, 0);
        x.enter(0, 50, 0);
        due("15: the gang's tools are not left", x.sectionOf(0, 7), 50);
        x.leave(0, 1);
        due("15: they add up", x.sectionOf(0, 7), 99);
        x.enter(1, 4, 0);
        x.leave(1, 1);
        due("15: of all sections", x.count(7), 102);
    }

    private static void promise16Fetch() {
        TramWires x = earthed();
        due("16: none", x.fetch(0), NOT_POSSIBLE);
        due("16: no section 3", x.fetch(3), INVALID);
        due("16: no section -1", x.fetch(-1), INVALID);
        due("16: no section MIN", x.fetch(Integer.MIN_VALUE), INVALID);
        x.enter(0, 9, 0);
        due("16: a gang's own", x.fetch(0), NOT_POSSIBLE);
        x.leave(0, 2);
        x.enter(0, 1, 0);
        due("16: left ones, but a gang", x.fetch(0), NOT_POSSIBLE);
        x.leave(0, 1);
        due("16: seven", x.fetch(0), 7);
        due("16: none now", x.sectionOf(0, 7), 0);
        due("16: not twice", x.fetch(0), NOT_POSSIBLE);
        due("16: undo", x.undo(), 4);
        x.step(7, 0);
        due("16: without an earth", x.fetch(0), 7);
    }

    private static void promise16FetchFromLive() {
        TramWires x = new TramWires();
        x.section(1, 1);
        x.step(0, 0);
        due("16: live and none", x.fetch(0), NOT_POSSIBLE);
        x.step(4, 0);
        x.step(6, 0);
        x.enter(0, 3, 0);
        x.leave(0, 1);
        x.step(7, 0);
        due("16: tools keep it dead", x.step(5, 0), NOT_POSSIBLE);
        due("16: and buses on it", x.refusal(1, 0), 22);
        due("16: two", x.fetch(0), 2);
        due("16: live then", x.step(5, 0), 1);
    }

    private static void promise17Pass() {
        TramWires x = new TramWires();
        int[] wrong = {0, -1, 10001, Integer.MIN_VALUE, Integer.MAX_VALUE};
        for (int w : wrong) {
            due("17: pass(" + w + ")", x.pass(w), INVALID);
        }
        due("17: no time went by", x.count(8) + x.count(14), 0);
        due("17: a minute", x.pass(1), 1);
        for (int i = 1; i <= 9; i++) {
            due("17: long", x.pass(10000), 1 + 10000 * i);
        }
        due("17: too long", x.pass(10000), LIMIT);
        due("17: too long, wrong", x.pass(10001), INVALID);
        due("17: the time stays", x.count(8), 90001);
        due("17: to the end", x.pass(9999), 100000);
        due("17: past the end", x.pass(1), LIMIT);
        due("17: undo", x.undo(), 4);
        due("17: the time then", x.count(8), 90001);
    }
}

/** Promises 1 to 8: the net, what is told of it, and undo. */
public final class NetTest {
    private static final int INVALID = TramWires.INVALID_ARGUMENT;
    private static final int NOT_POSSIBLE = TramWires.NOT_POSSIBLE;
    private static final int LIMIT = TramWires.LIMIT_REACHED;
    private static final int NOT_FOUND = TramWires.NOT_FOUND;

    public static void main(String[] args) {
        promise1NewObject();
        promise2Section();
        promise3Isolator();
        promise3IsolatorEndangers();
        promise3IsolatorOrderOfErrors();
        promise4Pool();
        promise5SectionOf();
        promise5HangsTogether();
        promise5SecondWay();
        promise6IsolatorOf();
        promise6SecondWay();
        promise7Count();
        promise8Undo();
        promise8UndoRestoresEverything();
        promise8UndoRestoresTheNet();
        promise8UndoRestoresLogAndSecondWay();
        fullNet();
        Check.end("NetTest");
    }

    private static void due(String call, long got, long want) {
        Check.due(call, got, want);
    }

    /** A row of sections 0 - 1 - 2 ..., of which the first alone has a feeder. */
    private static TramWires row(int sections) {
        TramWires x = new TramWires();
        for (int i = 0; i < sections; i++) {
            x.section(1, i == 0 ? 1 : 0);
            if (i > 0) {
                x.isolator(i - 1, i);
            }
        }
        return x;
    }

    private static void promise1NewObject() {
        TramWires x = new TramWires();
        int[] counts = {0, 0, 12, 12, 0, 0, 0, 0, 0, 0, 0, 0, 0, 0, 0, 0};
        for (int i = 0; i < counts.length; i++) {
            due("1: count(" + i + ")", x.count(i), counts[i]);
        }
        due("1: undo", x.undo(), NOT_POSSIBLE);
        due("1: log", x.log(0, 0), NOT_FOUND);
        due("1: fault", x.fault(0), NOT_FOUND);
        due("1: clearText", x.clearText(), 0);
        due("1: sectionOf", x.sectionOf(0, 0), INVALID);
        due("1: isolatorOf", x.isolatorOf(0, 0), INVALID);
        TramWires y = new TramWires();
        y.section(1, 1);
        y.type('b');
        due("1: objects stand alone", x.count(0) + x.count(15), 0);
    }

    private static void promise2Section() {
        TramWires x = new TramWires();
        int[][] wrong = {{0, 0}, {10, 0}, {-1, 1}, {1, 2}, {1, -1},
            {Integer.MIN_VALUE, 0}, {Integer.MAX_VALUE, 1}, {5, Integer.MAX_VALUE}};
        for (int[] w : wrong) {
            due("2: section(" + w[0] + ", " + w[1] + ")", x.section(w[0], w[1]), INVALID);
        }
        due("2: nothing changed", x.count(0) + x.count(14), 0);
        for (int i = 0; i < 10; i++) {
            int buses = 1 + i % 9;
            due("2: section " + i, x.section(buses, i % 2), i);
            due("2: buses of " + i, x.sectionOf(i, 0), buses);
            due("2: feeder of " + i, x.sectionOf(i, 1), i % 2 == 1 ? 2 : 0);
            due("2: live " + i, x.sectionOf(i, 2), i % 2);
            due("2: by trams " + i, x.sectionOf(i, 4), 0);
            due("2: alone " + i, x.sectionOf(i, 8), 1);
        }
        due("2: an eleventh", x.section(1, 0), LIMIT);
        due("2: an eleventh, wrong", x.section(0, 0), INVALID);
        due("2: still ten", x.count(0), 10);
    }

    private static void promise3Isolator() {
        TramWires x = new TramWires();
        due("3: without sections", x.isolator(0, 1), INVALID);
        x.section(1, 1);
        x.section(1, 0);
        int[][] wrong = {{0, 0}, {1, 1}, {0, 2}, {2, 0}, {-1, 0}, {0, -1},
            {Integer.MIN_VALUE, 1}, {1, Integer.MAX_VALUE}};
        for (int[] w : wrong) {
            due("3: isolator(" + w[0] + ", " + w[1] + ")", x.isolator(w[0], w[1]), INVALID);
        }
        for (int i = 0; i < 16; i++) {
            due("3: isolator " + i, x.isolator(i % 2, 1 - i % 2), i);
            due("3: closed " + i, x.isolatorOf(i, 2), 1);
        }
        due("3: lights the other", x.sectionOf(1, 2), 1);
        due("3: a seventeenth", x.isolator(0, 1), LIMIT);
        due("3: a seventeenth, wrong", x.isolator(0, 0), INVALID);
        due("3: still sixteen", x.count(1), 16);
        due("5: sixteen isolators at it", x.sectionOf(1, 9), 16);
    }

    /** Sections 0 (fed), 1 - 2 (dead and bridged), where 2 gets an earth, or tools. */
    private static TramWires deadPair(boolean earthed, boolean tools) {
        TramWires x = new TramWires();
        x.section(1, 1);
        x.section(1, 0);
        x.section(1, 0);
        x.isolator(1, 2);
        x.step(0, 2);
        x.step(6, 2);
        if (tools) {
            x.enter(2, 3, 10);
            x.leave(2, 1);
        }
        if (!earthed) {
            x.step(7, 2);
        }
        return x;
    }

    private static void promise3IsolatorEndangers() {
        due("3: neither earth nor tools", deadPair(false, false).isolator(0, 1), 1);
        due("3: earth behind", deadPair(true, false).isolator(0, 1), NOT_POSSIBLE);
        due("3: earth behind, turned", deadPair(true, false).isolator(1, 0), NOT_POSSIBLE);
        due("3: earth at it", deadPair(true, false).isolator(0, 2), NOT_POSSIBLE);
        due("3: tools behind", deadPair(false, true).isolator(0, 1), NOT_POSSIBLE);
        due("3: tools at it, turned", deadPair(false, true).isolator(2, 0), NOT_POSSIBLE);
        TramWires first = new TramWires();
        first.section(1, 0);
        first.section(1, 1);
        first.step(0, 0);
        first.step(6, 0);
        due("3: an earth on the first section", first.isolator(0, 1), NOT_POSSIBLE);
        first.enter(0, 1, 0);
        first.leave(0, 0);
        first.step(7, 0);
        due("3: one tool on the first section", first.isolator(1, 0), NOT_POSSIBLE);
        TramWires x = deadPair(true, true);
        due("3: among dead ones", x.isolator(2, 1), 1);
        int states = x.count(14);
        due("3: earth and tools", x.isolator(0, 2), NOT_POSSIBLE);
        due("3: no isolator was added", x.count(1), 2);
        due("3: no state was kept", x.count(14), states);
        due("3: nothing became live", x.count(4), 1);
        x.step(0, 0);
        x.step(4, 0);
        due("3: all dead", x.count(4), 0);
        due("3: joined while dead", x.isolator(0, 2), 2);
    }

    private static void promise3IsolatorOrderOfErrors() {
        TramWires x = deadPair(true, false);
        for (int i = 1; i < 16; i++) {
            due("3: isolator " + i, x.isolator(1, 2), i);
        }
        due("3: not possible goes ahead of the limit", x.isolator(0, 2), NOT_POSSIBLE);
        due("3: the limit", x.isolator(1, 2), LIMIT);
        due("3: invalid goes ahead of both", x.isolator(2, 2), INVALID);
    }

    private static void promise4Pool() {
        TramWires x = new TramWires();
        due("4: pool(-1)", x.pool(-1), INVALID);
        due("4: pool(41)", x.pool(41), INVALID);
        due("4: pool(MIN)", x.pool(Integer.MIN_VALUE), INVALID);
        due("4: pool(MAX)", x.pool(Integer.MAX_VALUE), INVALID);
        due("4: no state", x.count(14), 0);
        due("4: pool(0)", x.pool(0), 0);
        due("4: pool(40)", x.pool(40), 40);
        x.section(7, 1);
        x.section(9, 1);
        x.step(0, 0);
        x.step(0, 1);
        due("4: free", x.count(3), 24);
        due("4: pool(15)", x.pool(15), NOT_POSSIBLE);
        due("4: pool stays", x.count(2), 40);
        due("4: pool(16)", x.pool(16), 0);
        due("4: the same again is a change", x.pool(16), 0);
        due("4: pool(17)", x.pool(17), 1);
        due("4: pool(41) while fewer are free", x.pool(41), INVALID);
        due("4: the pool", x.count(2), 17);
        due("4: undo", x.undo(), 4);
        due("4: the pool then", x.count(2), 16);
    }

    private static void promise5SectionOf() {
        TramWires x = deadPair(true, false);
        due("5: invalid what", x.sectionOf(0, 11), INVALID);
        due("5: negative what", x.sectionOf(0, -1), INVALID);
        due("5: what MIN", x.sectionOf(0, Integer.MIN_VALUE), INVALID);
        due("5: no section 3", x.sectionOf(3, 0), INVALID);
        due("5: no section -1", x.sectionOf(-1, 10), INVALID);
        due("5: no section MAX", x.sectionOf(Integer.MAX_VALUE, 10), INVALID);
        due("5: no gang", x.sectionOf(2, 6), 0);
        due("5: no time of a gang", x.sectionOf(2, 10), NOT_FOUND);
        x.pass(7);
        x.enter(2, 20, 33);
        due("5: a gang", x.sectionOf(2, 6), 1);
        due("5: its time", x.sectionOf(2, 10), 33);
        due("5: the gang's tools are not left", x.sectionOf(2, 7), 0);
        x.leave(2, 4);
        due("5: left tools", x.sectionOf(2, 7), 16);
        due("5: the gang is gone", x.sectionOf(2, 10), NOT_FOUND);
        due("5: bridged", x.sectionOf(2, 4), 1);
        due("5: not bridged", x.sectionOf(1, 4), 0);
        due("5: earth", x.sectionOf(2, 5), 1);
        due("5: no earth", x.sectionOf(1, 5), 0);
        due("5: dead", x.sectionOf(1, 2), 0);
        due("5: feeder on", x.sectionOf(0, 1), 2);
        x.step(0, 0);
        x.step(4, 0);
        due("5: feeder off", x.sectionOf(0, 1), 1);
        due("5: no feeder", x.sectionOf(1, 1), 0);
        due("5: dead without its feeder", x.sectionOf(0, 2), 0);
    }

    private static void promise5HangsTogether() {
        TramWires x = row(5);
        x.isolator(1, 3);
        x.isolator(1, 3);
        due("5: all together", x.sectionOf(4, 8), 5);
        due("5: isolators at 1", x.sectionOf(1, 9), 4);
        due("5: isolators at 0", x.sectionOf(0, 9), 1);
        for (int i = 0; i < 5; i++) {
            x.step(0, i);
        }
        x.step(2, 1);
        due("5: round about", x.sectionOf(2, 8), 5);
        x.step(2, 2);
        due("5: alone", x.sectionOf(2, 8), 1);
        due("5: no closed isolator", x.sectionOf(2, 9), 0);
        due("5: the others", x.sectionOf(4, 8), 4);
        due("5: groups", x.count(13), 2);
        due("5: live", x.sectionOf(4, 2), 1);
        due("5: not live", x.sectionOf(2, 2), 0);
        TramWires y = new TramWires();
        for (int i = 0; i < 10; i++) {
            y.section(1, i == 9 ? 1 : 0);
        }
        for (int i = 0; i < 9; i++) {
            y.isolator(8 - i, 9 - i);
        }
        due("5: along ten", y.sectionOf(0, 8), 10);
        due("5: live along ten", y.sectionOf(0, 2), 1);
        due("5: live along ten in the second way", y.sectionOf(0, 3), 1);
        due("5: one group", y.count(13), 1);
    }

    private static void promise5SecondWay() {
        TramWires x = row(3);
        x.step(0, 1);
        x.step(0, 2);
        x.step(2, 0);
        due("5: 0 in the second way", x.sectionOf(0, 3), 1);
        due("5: 1 in the second way", x.sectionOf(1, 3), 0);
        due("5: 2 in the second way", x.sectionOf(2, 3), 0);
        for (int i = 0; i < 13; i++) {
            x.step(2, 1);
            x.step(3, 1);
        }
        due("5: the log is full", x.count(10), 24);
        due("5: the opening is not in the log any more", x.log(23, 1), 1);
        due("5: 2 is dead by what was ahead of the log", x.sectionOf(2, 3), 0);
        x.step(3, 0);
        due("5: 2 is live by the latest step", x.sectionOf(2, 3), 1);
        x.step(0, 0);
        x.step(4, 0);
        due("5: 2 is dead by the feeder", x.sectionOf(2, 3), 0);
        for (int i = 0; i < 12; i++) {
            x.step(2, 1);
            x.step(3, 1);
        }
        due("5: 0 is dead by what was ahead", x.sectionOf(0, 3), 0);
        x.step(5, 0);
        due("5: 2 is live again", x.sectionOf(2, 3), 1);
    }

    private static void promise6IsolatorOf() {
        TramWires x = row(4);
        due("6: first", x.isolatorOf(2, 0), 2);
        due("6: second", x.isolatorOf(2, 1), 3);
        x.isolator(3, 1);
        due("6: first, as told", x.isolatorOf(3, 0), 3);
        due("6: second, as told", x.isolatorOf(3, 1), 1);
        int[][] wrong = {{4, 0}, {-1, 0}, {0, 6}, {0, -1},
            {Integer.MAX_VALUE, 0}, {0, Integer.MIN_VALUE}};
        for (int[] w : wrong) {
            due("6: isolatorOf(" + w[0] + ", " + w[1] + ")", x.isolatorOf(w[0], w[1]), INVALID);
        }
        due("6: opening 0 darkens 3", x.isolatorOf(0, 4), 3);
        due("6: opening 1 darkens none", x.isolatorOf(1, 4), 0);
        due("6: a closed one lights none", x.isolatorOf(0, 5), 0);
        x.step(0, 1);
        x.step(0, 2);
        x.step(0, 3);
        x.step(2, 1);
        due("6: opening 3 darkens 2 now", x.isolatorOf(3, 4), 2);
        due("6: an open one", x.isolatorOf(1, 2), 0);
        due("6: an open one darkens none", x.isolatorOf(1, 4), 0);
        due("6: closing among live ones", x.isolatorOf(1, 5), 0);
        x.step(2, 0);
        due("6: closing 0 would light 3", x.isolatorOf(0, 5), 3);
        due("6: closing among dead ones", x.isolatorOf(1, 5), 0);
        due("6: opening among dead ones", x.isolatorOf(2, 4), 0);
        due("6: asking changes nothing", x.count(4) + 10 * x.isolatorOf(0, 2), 1);
        x.step(6, 3);
        due("6: also if it would be refused", x.isolatorOf(0, 5), 3);
        TramWires y = new TramWires();
        y.section(1, 0);
        y.section(1, 1);
        y.isolator(0, 1);
        due("6: opening darkens the first section", y.isolatorOf(0, 4), 1);
        y.step(0, 0);
        y.step(2, 0);
        due("6: closing lights the first section", y.isolatorOf(0, 5), 1);
    }

    private static void promise6SecondWay() {
        TramWires x = row(2);
        x.step(0, 1);
        due("6: closed in the second way", x.isolatorOf(0, 3), 1);
        x.step(2, 0);
        due("6: open in the second way", x.isolatorOf(0, 3), 0);
        for (int i = 0; i < 24; i++) {
            x.step(i % 2 == 0 ? 6 : 7, 1);
        }
        due("6: the opening has left the log", x.log(23, 0), 6);
        due("6: open by what was ahead", x.isolatorOf(0, 3), 0);
        due("6: a later isolator", x.isolator(0, 1), 1);
        due("6: is closed", x.isolatorOf(1, 3), 1);
        x.step(3, 0);
        due("6: closed again", x.isolatorOf(0, 3), 1);
        TramWires y = new TramWires();
        y.section(1, 0);
        y.section(1, 0);
        y.isolator(0, 1);
        y.isolator(0, 1);
        y.step(2, 0);
        for (int i = 0; i < 24; i++) {
            y.step(i % 2 == 0 ? 2 : 3, 1);
        }
        due("6: the first step has left the log", y.log(23, 1), 1);
        due("6: open by the one step ahead", y.isolatorOf(0, 3), 0);
        due("6: closed by the latest step", y.isolatorOf(1, 3), 1);
    }

    private static void promise7Count() {
        TramWires x = deadPair(true, false);
        due("7: count(-1)", x.count(-1), INVALID);
        due("7: count(16)", x.count(16), INVALID);
        due("7: count(MIN)", x.count(Integer.MIN_VALUE), INVALID);
        due("7: count(MAX)", x.count(Integer.MAX_VALUE), INVALID);
        x.pool(30);
        x.step(0, 1);
        x.step(6, 1);
        x.enter(1, 9, 5);
        x.enter(2, 8, 6);
        x.pass(5);
        due("7: no gang is late at its time", x.count(12), 0);
        x.pass(1);
        due("7: one is late", x.count(12), 1);
        x.pass(1);
        due("7: both are late", x.count(12), 2);
        due("7: none left late yet", x.count(11), 0);
        x.leave(1, 2);
        x.leave(2, 2);
        due("7: late minutes", x.count(11), 3);
        due("7: none is late now", x.count(12), 0);
        x.enter(1, 0, 100);
        Check.text(x, "u2;e2");
        int[] counts = {3, 1, 30, 28, 1, 2, 1, 13, 7, 4, 4, 3, 0, 2, 5, 5};
        for (int i = 0; i < counts.length; i++) {
            due("7: count(" + i + ")", x.count(i), counts[i]);
        }
        TramWires y = new TramWires();
        y.section(1, 0);
        y.step(0, 0);
        y.step(6, 0);
        y.enter(0, 0, 0);
        y.pass(1);
        due("7: late on the first section", y.count(12), 1);
    }

    private static void promise8Undo() {
        TramWires x = new TramWires();
        due("8: empty", x.undo(), NOT_POSSIBLE);
        for (int i = 0; i < 4; i++) {
            x.section(1, 0);
        }
        due("8: four states", x.count(14), 4);
        x.section(1, 0);
        x.section(1, 0);
        x.section(1, 0);
        due("8: five states", x.count(14), 5);
        for (int i = 0; i < 5; i++) {
            due("8: undo", x.undo(), 4 - i);
            due("8: sections then", x.count(0), 6 - i);
            due("8: states then", x.count(14), 4 - i);
        }
        due("8: the older ones are dropped", x.undo(), NOT_POSSIBLE);
        due("8: two sections stay", x.count(0), 2);
        x.section(0, 0);
        due("8: errors are not kept", x.undo(), NOT_POSSIBLE);
        due("8: a change again", x.section(9, 1), 2);
        due("8: its number is given again", x.sectionOf(2, 0), 9);
        due("8: and undone", x.undo(), 0);
    }

    private static void promise8UndoRestoresEverything() {
        TramWires x = deadPair(true, false);
        Check.text(x, "abc");
        x.enter(2, 30, 4);
        x.pass(9);
        due("8: late by", x.leave(2, 10), 5);
        due("8: fetched", x.fetch(2), 20);
        due("8: undo fetch", x.undo(), 4);
        due("8: tools are back", x.sectionOf(2, 7), 20);
        due("8: late minutes stay", x.count(11), 5);
        due("8: undo leave", x.undo(), 3);
        due("8: the gang is back", x.sectionOf(2, 10), 4);
        due("8: no tools", x.count(7), 0);
        due("8: no late minutes", x.count(11), 0);
        due("8: late now", x.count(12), 1);
        due("8: it brought what it brought", x.leave(2, 31), NOT_POSSIBLE);
        due("8: undo pass", x.undo(), 2);
        due("8: the time", x.count(8), 0);
        due("8: undo enter", x.undo(), 1);
        due("8: no gang", x.count(6), 0);
        Check.text(x, "abcdef");
        due("8: undo earth", x.undo(), 0);
        due("8: no earth", x.sectionOf(2, 5), 0);
        due("8: the text stays", x.count(15), 6);
        due("8: steps made", x.count(9), 1);
        due("8: steps in the log", x.count(10), 1);
    }

    private static void promise8UndoRestoresTheNet() {
        TramWires x = row(4);
        for (int i = 0; i < 4; i++) {
            x.step(0, i);
        }
        x.step(2, 1);
        x.step(4, 0);
        due("8: two groups", x.count(13), 2);
        due("8: all dead", x.count(4), 0);
        x.undo();
        due("8: the feeder is on", x.sectionOf(0, 1), 2);
        due("8: two are live", x.count(4), 2);
        x.undo();
        due("8: one group", x.count(13), 1);
        due("8: four together", x.sectionOf(3, 8), 4);
        due("8: all live", x.count(4), 4);
        x.isolator(0, 3);
        x.step(2, 0);
        x.undo();
        x.undo();
        due("8: without the isolator", x.isolatorOf(3, 0), INVALID);
        due("8: isolators at 3", x.sectionOf(3, 9), 1);
        TramWires y = deadPair(true, false);
        y.enter(2, 30, 4);
        y.leave(2, 30);
        y.enter(2, 1, 50);
        y.undo();
        y.undo();
        due("8: the time of the gang ahead", y.sectionOf(2, 10), 4);
        due("8: the tools that it brought", y.leave(2, 30), 0);
    }

    /** Ten sections in a ring, sixteen isolators: the rows' ends. */
    private static void fullNet() {
        TramWires x = new TramWires();
        for (int i = 0; i < 10; i++) {
            x.section(1, i == 9 ? 1 : 0);
        }
        for (int i = 0; i < 16; i++) {
            x.isolator(i % 10, (i + 1) % 10);
        }
        due("5: isolators at 9", x.sectionOf(9, 9), 2);
        due("5: isolators at 0", x.sectionOf(0, 9), 3);
        due("6: darkens none", x.isolatorOf(15, 4), 0);
        due("9: darkens none", x.refusal(2, 9), 0);
        due("9: darkens all", x.refusal(4, 9), 52);
        due("13: all but the feeder", x.canPlan(9), 1);
        x.pool(40);
        for (int i = 0; i < 10; i++) {
            due("10: bridge " + i, x.step(0, i), 10);
        }
        due("7: bridged", x.count(5), 10);
        due("7: free", x.count(3), 30);
        due("9: no trams to darken", x.refusal(4, 9), 0);
        due("13: all of it", x.canPlan(9), 4);
        due("10: open 9", x.step(2, 9), 10);
        due("10: open 8", x.step(2, 8), 1);
        due("6: closing 9 lights nine", x.isolatorOf(9, 5), 9);
        due("9: closing 9", x.refusal(3, 9), 0);
        due("10: earth 0", x.step(6, 0), 1);
        due("9: closing 8, an earth on 0", x.refusal(3, 8), 42);
        due("14: a gang", x.enter(0, 1, 0), 1);
        due("15: it leaves a tool", x.leave(0, 0), 0);
        due("10: earth away", x.step(7, 0), 1);
        due("9: closing 8, a tool on 0", x.refusal(3, 8), 43);
        due("10: feeder off", x.step(4, 9), 0);
        due("10: close 8", x.step(3, 8), 0);
        due("9: feeder on, a tool on 0", x.refusal(5, 9), 63);
        due("16: the tool", x.fetch(0), 1);
        due("9: feeder on", x.refusal(5, 9), 0);
        due("10: feeder on", x.step(5, 9), 10);
        due("5: live in the second way", x.sectionOf(0, 3), 1);
    }

    private static void promise8UndoRestoresLogAndSecondWay() {
        TramWires x = row(2);
        x.step(0, 1);
        x.step(2, 0);
        for (int i = 0; i < 23; i++) {
            x.step(i % 2 == 0 ? 6 : 7, 1);
        }
        x.pass(3);
        x.step(7, 1);
        due("8: open by what was ahead", x.isolatorOf(0, 3), 0);
        x.step(3, 0);
        x.step(2, 0);
        due("8: times", x.log(0, 2), 3);
        x.undo();
        due("8: closed by the log", x.isolatorOf(0, 3), 1);
        due("8: live by the log", x.sectionOf(1, 3), 1);
        x.undo();
        x.undo();
        due("8: the log's length", x.count(10), 24);
        due("8: the dropped step is back", x.log(23, 0), 2);
        due("8: the latest one", x.log(0, 0), 6);
        due("8: open by the log", x.isolatorOf(0, 3), 0);
        due("8: steps made", x.count(9), 25);
        TramWires y = row(2);
        y.step(0, 1);
        y.isolator(1, 0);
        y.step(2, 1);
        y.undo();
        y.undo();
        y.isolator(0, 1);
        due("8: a new isolator under an old number is closed", y.isolatorOf(1, 3), 1);
    }
}

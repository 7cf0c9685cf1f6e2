/** Promises 14 to 17: a test for each sentence that has an edge. */
public final class GangsEdgesTest {
    private static final int INVALID = Run.INVALID;
    private static final int NOT_POSSIBLE = Run.NOT_POSSIBLE;
    private static final int LIMIT = Run.LIMIT;
    private static final int NOT_FOUND = Run.NOT_FOUND;
    private static final int MIN = Run.MIN;
    private static final int MAX = Run.MAX;

    public static void main(String[] args) {
        p14Section();
        p14Tools();
        p14Until();
        p14UntilAtTheEndOfTime();
        p14GangsThen();
        p14NoEarth();
        p14GangIsThere();
        p15Section();
        p15Tools();
        p15LateByMinutes();
        p15NobodyIsThere();
        p15BroughtFewer();
        p15TenGangsLeave();
        p16Section();
        p16HowManyThereWere();
        p16None();
        p16Live();
        p16GangIsThere();
        p17Minutes();
        p17TimeThen();
        p17Limit();
        Check.end("GangsEdgesTest");
    }

    private static void p14Section() {
        Run x = Run.earthed("14: section: number of the section");
        for (int wrong : new int[] {MIN, -1, 2, 10, MAX}) {
            x.enter(wrong, 0, 0).is(INVALID);
        }
        x.enter(1, 0, 0).is(1);
    }

    private static void p14Tools() {
        Run x = Run.earthed("14: tools: 0 to 50");
        for (int wrong : new int[] {MIN, -1, 51, 52, MAX}) {
            x.enter(1, wrong, 0).is(INVALID);
        }
        x.count(6).is(0);
        x.enter(1, 0, 0).is(1);
        x.leave(1, 1).is(NOT_POSSIBLE);
        x.leave(1, 0).is(0);
        x.enter(1, 50, 0).is(1);
        x.leave(1, 50).is(0);
        x.count(7).is(0);
    }

    private static void p14Until() {
        Run x = Run.earthed("14: until: the present time to 100000");
        x.enter(1, 0, -1).is(INVALID);
        x.enter(1, 0, MIN).is(INVALID);
        x.enter(1, 0, 100001).is(INVALID);
        x.enter(1, 0, MAX).is(INVALID);
        x.enter(1, 0, 0).is(1);
        x.sectionOf(1, 10).is(0);
        x.leave(1, 0);
        x.pass(10);
        x.enter(1, 0, 9).is(INVALID);
        x.enter(1, 0, 0).is(INVALID);
        x.enter(1, 0, 10).is(1);
        x.sectionOf(1, 10).is(10);
        x.leave(1, 0);
        x.enter(1, 0, 100000).is(1);
        x.sectionOf(1, 10).is(100000);
        x.leave(1, 0);
        x.pass(5);
        x.undo();
        x.enter(1, 0, 10).is(1);
    }

    private static void p14UntilAtTheEndOfTime() {
        Run x = Run.earthed("14: until at the time 100000");
        for (int i = 0; i < 10; i++) {
            x.pass(10000);
        }
        x.enter(1, 0, 99999).is(INVALID);
        x.enter(1, 0, 100001).is(INVALID);
        x.enter(1, 0, 100000).is(1);
        x.count(12).is(0);
        x.leave(1, 0).is(0);
    }

    private static void p14GangsThen() {
        Run x = new Run("14: returns how many gangs there are then");
        for (int i = 0; i < 10; i++) {
            x.section(1, 0);
            x.step(0, i);
            x.step(6, i);
        }
        for (int i = 0; i < 10; i++) {
            x.enter(9 - i, 1, 0).is(i + 1);
        }
        x.leave(4, 1);
        x.enter(4, 1, 0).is(10);
        x.leave(9, 1);
        x.leave(0, 1);
        x.enter(0, 1, 0).is(9);
    }

    private static void p14NoEarth() {
        Run x = Run.deadRow("14: NOT_POSSIBLE if the section has no earth", 2);
        x.enter(1, 0, 0).is(NOT_POSSIBLE);
        x.step(6, 0);
        x.enter(1, 0, 0).is(NOT_POSSIBLE);
        x.step(6, 1);
        x.step(7, 0);
        x.enter(0, 0, 0).is(NOT_POSSIBLE);
        x.enter(1, 0, 0).is(1);
    }

    private static void p14GangIsThere() {
        Run x = Run.earthed("14: NOT_POSSIBLE if the section has a gang");
        x.enter(1, 3, 5);
        x.enter(1, 4, 6).is(NOT_POSSIBLE);
        x.sectionOf(1, 10).is(5);
        x.leave(1, 4).is(NOT_POSSIBLE);
        x.leave(1, 3).is(0);
        x.enter(1, 4, 6).is(1);
        x.sectionOf(1, 10).is(6);
    }

    private static void p15Section() {
        Run x = Run.earthed("15: section: number of the section");
        x.enter(1, 0, 0);
        for (int wrong : new int[] {MIN, -1, 2, 10, MAX}) {
            x.leave(wrong, 0).is(INVALID);
        }
        x.count(6).is(1);
        x.leave(1, 0).is(0);
    }

    private static void p15Tools() {
        Run x = Run.earthed("15: tools: 0 to 50");
        x.enter(1, 50, 0);
        for (int wrong : new int[] {MIN, -1, 51, 52, MAX}) {
            x.leave(1, wrong).is(INVALID);
        }
        x.leave(1, 50).is(0);
        x.sectionOf(1, 7).is(0);
        x.enter(1, 50, 0);
        x.leave(1, 0).is(0);
        x.sectionOf(1, 7).is(50);
    }

    private static void p15LateByMinutes() {
        Run x = Run.earthed("15: returns by how many minutes it is late, 0 if it is not");
        x.enter(1, 0, 0);
        x.leave(1, 0).is(0);
        x.enter(1, 0, 100000);
        x.leave(1, 0).is(0);
        x.enter(1, 0, 3);
        x.pass(2);
        x.leave(1, 0).is(0);
        x.enter(1, 0, 3);
        x.pass(1);
        x.leave(1, 0).is(0);
        x.enter(1, 0, 3);
        x.pass(1);
        x.leave(1, 0).is(1);
        x.enter(1, 0, 4);
        for (int i = 0; i < 9; i++) {
            x.pass(10000);
        }
        x.pass(9996).is(100000);
        x.leave(1, 0).is(99996);
        x.count(11).is(99997);
    }

    private static void p15NobodyIsThere() {
        Run x = Run.deadRow("15: NOT_POSSIBLE if no gang is there", 2);
        x.leave(1, 0).is(NOT_POSSIBLE);
        x.step(6, 0);
        x.step(6, 1);
        x.leave(1, 0).is(NOT_POSSIBLE);
        x.enter(0, 5, 0);
        x.leave(1, 0).is(NOT_POSSIBLE);
        x.leave(0, 0).is(0);
        x.leave(0, 0).is(NOT_POSSIBLE);
        x.sectionOf(0, 7).is(5);
    }

    private static void p15BroughtFewer() {
        Run x = Run.withTools("15: NOT_POSSIBLE if it brought fewer tools", 20);
        x.step(6, 1);
        x.enter(1, 3, 0);
        x.leave(1, 4).is(NOT_POSSIBLE);
        x.leave(1, 50).is(NOT_POSSIBLE);
        x.leave(1, 3).is(0);
        x.sectionOf(1, 7).is(20);
        x.enter(1, 0, 0);
        x.leave(1, 1).is(NOT_POSSIBLE);
        x.leave(1, 0).is(0);
        x.sectionOf(1, 7).is(20);
    }

    private static void p15TenGangsLeave() {
        Run x = new Run("15: ten gangs leave one after the other");
        for (int i = 0; i < 10; i++) {
            x.section(1, 0);
            x.step(0, i);
            x.step(6, i);
            x.enter(i, 5 * i, i);
        }
        x.pass(9);
        x.count(12).is(9);
        for (int i = 9; i >= 0; i--) {
            x.leave(i, i).is(9 - i);
            x.sectionOf(i, 7).is(4 * i);
            x.count(6).is(i);
        }
        x.count(11).is(45);
        x.count(7).is(180);
    }

    private static void p16Section() {
        Run x = Run.withTools("16: section: number of the section", 1);
        for (int wrong : new int[] {MIN, -1, 2, 10, MAX}) {
            x.fetch(wrong).is(INVALID);
        }
        x.fetch(1).is(1);
    }

    private static void p16HowManyThereWere() {
        Run x = Run.withTools("16: fetches all tools that were left; returns how many there were", 50);
        x.step(6, 1);
        x.enter(1, 50, 0);
        x.leave(1, 1);
        x.fetch(1).is(99);
        x.sectionOf(1, 7).is(0);
        x.count(7).is(0);
        x.enter(1, 1, 0);
        x.leave(1, 0);
        x.fetch(1).is(1);
    }

    private static void p16None() {
        Run x = Run.earthed("16: NOT_POSSIBLE if there are none");
        x.fetch(0).is(NOT_POSSIBLE);
        x.fetch(1).is(NOT_POSSIBLE);
        x.enter(1, 9, 0);
        x.leave(1, 9);
        x.fetch(1).is(NOT_POSSIBLE);
        x.enter(1, 9, 0);
        x.leave(1, 8);
        x.fetch(1).is(1);
        x.fetch(1).is(NOT_POSSIBLE);
    }

    /** No call can make a section with tools live; so tools keep it dead until they are fetched. */
    private static void p16Live() {
        Run x = Run.deadRow("16: NOT_POSSIBLE if it is live", 1);
        x.step(6, 0);
        x.enter(0, 2, 0);
        x.leave(0, 0);
        x.step(7, 0);
        x.step(5, 0).is(NOT_POSSIBLE);
        x.sectionOf(0, 2).is(0);
        x.fetch(0).is(2);
        x.step(5, 0).is(1);
        x.sectionOf(0, 2).is(1);
        x.fetch(0).is(NOT_POSSIBLE);
    }

    private static void p16GangIsThere() {
        Run x = Run.withTools("16: NOT_POSSIBLE if a gang is there", 4);
        x.step(6, 1);
        x.enter(1, 0, 0);
        x.fetch(1).is(NOT_POSSIBLE);
        x.sectionOf(1, 7).is(4);
        x.leave(1, 0);
        x.fetch(1).is(4);
    }

    private static void p17Minutes() {
        Run x = new Run("17: minutes: 1 to 10000");
        for (int wrong : new int[] {MIN, -1, 0, 10001, 100000, 100001, MAX}) {
            x.pass(wrong).is(INVALID);
            x.count(8).is(0);
        }
        x.pass(1).is(1);
        x.pass(10000).is(10001);
    }

    private static void p17TimeThen() {
        Run x = Run.earthed("17: returns the time then");
        x.enter(1, 0, 6);
        x.pass(5).is(5);
        x.pass(7).is(12);
        x.count(8).is(12);
        x.count(12).is(1);
        x.leave(1, 0).is(6);
        x.step(7, 1);
        x.log(0, 2).is(12);
        x.log(1, 2).is(0);
        x.sectionOf(1, 10).is(NOT_FOUND);
    }

    private static void p17Limit() {
        Run x = new Run("17: LIMIT_REACHED if it would be greater than 100000");
        for (int i = 1; i <= 9; i++) {
            x.pass(10000).is(10000 * i);
        }
        x.pass(1).is(90001);
        x.pass(10000).is(LIMIT);
        x.pass(9999).is(100000);
        x.pass(1).is(LIMIT);
        x.pass(10000).is(LIMIT);
        x.count(8).is(100000);
        x.undo();
        x.pass(9998).is(99999);
        x.pass(2).is(LIMIT);
        x.pass(1).is(100000);
    }
}

/** Promises 1 to 8: a test for each sentence that has an edge, and for each number that count and its like tell. */
public final class NetEdgesTest {
    private static final int INVALID = Run.INVALID;
    private static final int NOT_POSSIBLE = Run.NOT_POSSIBLE;
    private static final int LIMIT = Run.LIMIT;
    private static final int NOT_FOUND = Run.NOT_FOUND;
    private static final int MIN = Run.MIN;
    private static final int MAX = Run.MAX;

    public static void main(String[] args) {
        promises1To4();
        promise5();
        promise6();
        promise7();
        promise8();
        Check.end("NetEdgesTest");
    }

    private static void promises1To4() {
        p1WithoutSections();
        p1AtTheTimeZero();
        p2RunByTramsTogetherWithNone();
        p2Buses();
        p2Feeder();
        p2Number();
        p2Limit();
        p3AddsAClosedOne();
        p3One();
        p3Other();
        p3Number();
        p3Earth();
        p3Tools();
        p3EarthOrToolsOnTheFirstSection();
        p3EarthOrToolsOnTheLastSection();
        p3NotPossibleOnlyIfItWouldBecomeLive();
        p3Limit();
        p4Buses();
        p4FreeBusesThen();
        p4NotPossible();
    }

    private static void promise5() {
        p5Section();
        p5What();
        p5Buses();
        p5Feeder();
        p5Live();
        p5SecondWay();
        p5Bridged();
        p5Earth();
        p5Gang();
        p5Tools();
        p5Together();
        p5ClosedIsolators();
        p5FullNet();
        p5Until();
    }

    private static void promise6() {
        p6Isolator();
        p6What();
        p6AsTold();
        p6Closed();
        p6SecondWay();
        p6Darkened();
        p6NoneIfItIsOpen();
        p6Lit();
        p6NoneIfItIsClosed();
        p6FullNet();
    }

    private static void promise7() {
        p7What();
        p7Sections();
        p7Isolators();
        p7Pool();
        p7FreeBuses();
        p7Live();
        p7Bridged();
        p7Gangs();
        p7Tools();
        p7Time();
        p7StepsMade();
        p7StepsInTheLog();
        p7LateMinutes();
        p7LateNow();
        p7Groups();
        p7States();
        p7LengthOfTheText();
    }

    private static void promise8() {
        p8Latest();
        p8StatesLeft();
        p8Empty();
        p8NumbersAreGivenAgain();
    }

    private static void p1WithoutSections() {
        Run x = new Run("1: a net without sections");
        x.count(0).is(0);
        x.count(1).is(0);
        x.count(4).is(0);
        x.count(13).is(0);
        x.sectionOf(0, 0).is(INVALID);
        x.isolatorOf(0, 0).is(INVALID);
        x.section(1, 0).is(0);
    }

    private static void p1AtTheTimeZero() {
        Run x = new Run("1: at the time 0");
        x.count(8).is(0);
        x.pass(1).is(1);
        Run y = new Run("1: another object has its own time");
        y.count(8).is(0);
        y.count(14).is(0);
        x.count(8).is(1);
    }

    private static void p2RunByTramsTogetherWithNone() {
        Run x = new Run("2: adds a section that is run by trams; it hangs together with no other one");
        x.section(1, 1);
        x.section(1, 0);
        for (int i = 0; i < 2; i++) {
            x.sectionOf(i, 4).is(0);
            x.sectionOf(i, 8).is(1);
            x.sectionOf(i, 9).is(0);
            x.sectionOf(i, 2).is(1 - i);
        }
        x.isolator(0, 1);
        x.section(1, 0);
        x.sectionOf(2, 8).is(1);
        x.sectionOf(2, 2).is(0);
        x.count(13).is(2);
    }

    private static void p2Buses() {
        Run x = new Run("2: buses: 1 to 9");
        for (int wrong : new int[] {MIN, -1, 0, 10, 11, MAX}) {
            x.section(wrong, 0).is(INVALID);
            x.section(wrong, 1).is(INVALID);
        }
        x.count(0).is(0);
        for (int buses = 1; buses <= 9; buses++) {
            x.section(buses, 0).is(buses - 1);
            x.sectionOf(buses - 1, 0).is(buses);
        }
    }

    private static void p2Feeder() {
        Run x = new Run("2: feeder: 1 if it has a feeder (which is on), otherwise 0");
        for (int wrong : new int[] {MIN, -1, 2, 3, MAX}) {
            x.section(1, wrong).is(INVALID);
        }
        x.count(0).is(0);
        x.section(1, 0).is(0);
        x.section(1, 1).is(1);
        x.sectionOf(0, 1).is(0);
        x.sectionOf(1, 1).is(2);
        x.sectionOf(0, 2).is(0);
        x.sectionOf(1, 2).is(1);
    }

    private static void p2Number() {
        Run x = new Run("2: returns its number");
        x.section(3, 1).is(0);
        x.section(0, 1).is(INVALID);
        x.section(4, 0).is(1);
        x.undo();
        x.section(5, 0).is(1);
        x.sectionOf(0, 0).is(3);
        x.sectionOf(1, 0).is(5);
    }

    private static void p2Limit() {
        Run x = new Run("2: LIMIT_REACHED if there are 10");
        for (int i = 0; i < 10; i++) {
            x.section(1, 1).is(i);
        }
        x.section(1, 1).is(LIMIT);
        x.section(9, 0).is(LIMIT);
        x.undo();
        x.section(9, 0).is(9);
        x.section(9, 0).is(LIMIT);
    }

    private static void p3AddsAClosedOne() {
        Run x = new Run("3: adds a closed isolator");
        x.section(1, 1);
        x.section(1, 0);
        x.sectionOf(1, 2).is(0);
        x.isolator(1, 0).is(0);
        x.isolatorOf(0, 2).is(1);
        x.sectionOf(1, 2).is(1);
        x.sectionOf(1, 9).is(1);
        x.sectionOf(0, 8).is(2);
    }

    private static void p3One() {
        Run x = new Run("3: one: number of a section");
        x.isolator(0, 0).is(INVALID);
        x.section(1, 1);
        x.isolator(0, 0).is(INVALID);
        x.section(1, 1);
        for (int wrong : new int[] {MIN, -1, 2, 10, MAX}) {
            x.isolator(wrong, 0).is(INVALID);
            x.isolator(wrong, 1).is(INVALID);
            x.isolator(wrong, wrong).is(INVALID);
        }
        x.isolator(0, 1).is(0);
        x.isolator(1, 0).is(1);
    }

    private static void p3Other() {
        Run x = new Run("3: other: number of another section");
        x.section(1, 1);
        x.section(1, 1);
        for (int wrong : new int[] {MIN, -1, 2, 10, MAX}) {
            x.isolator(0, wrong).is(INVALID);
            x.isolator(1, wrong).is(INVALID);
        }
        x.isolator(0, 0).is(INVALID);
        x.isolator(1, 1).is(INVALID);
        x.count(1).is(0);
    }

    private static void p3Number() {
        Run x = new Run("3: returns its number");
        x.section(1, 1);
        x.section(1, 1);
        x.isolator(0, 1).is(0);
        x.isolator(0, 0).is(INVALID);
        x.isolator(0, 1).is(1);
        x.undo();
        x.isolator(1, 0).is(1);
        x.isolatorOf(1, 0).is(1);
    }

    private static void p3Earth() {
        Run x = Run.earthed("3: NOT_POSSIBLE if a section with an earth would become live");
        x.isolator(0, 1).is(NOT_POSSIBLE);
        x.isolator(1, 0).is(NOT_POSSIBLE);
        x.section(1, 0);
        x.isolator(2, 1).is(0);
        x.isolator(2, 0).is(NOT_POSSIBLE);
        x.isolator(0, 2).is(NOT_POSSIBLE);
        x.step(7, 1);
        x.isolator(0, 2).is(1);
        x.sectionOf(1, 2).is(1);
    }

    private static void p3Tools() {
        Run x = Run.withTools("3: NOT_POSSIBLE if a section with tools on it would become live", 1);
        x.isolator(0, 1).is(NOT_POSSIBLE);
        x.isolator(1, 0).is(NOT_POSSIBLE);
        x.section(1, 0);
        x.isolator(2, 1).is(0);
        x.isolator(2, 0).is(NOT_POSSIBLE);
        x.isolator(0, 2).is(NOT_POSSIBLE);
        x.fetch(1).is(1);
        x.isolator(0, 2).is(1);
        x.sectionOf(1, 2).is(1);
    }

    private static void p3EarthOrToolsOnTheFirstSection() {
        Run x = new Run("3: NOT_POSSIBLE if the first section would become live");
        x.section(1, 0);
        x.section(1, 1);
        x.step(0, 0);
        x.step(6, 0);
        x.isolator(0, 1).is(NOT_POSSIBLE);
        x.isolator(1, 0).is(NOT_POSSIBLE);
        x.enter(0, 1, 0);
        x.leave(0, 0);
        x.step(7, 0);
        x.isolator(0, 1).is(NOT_POSSIBLE);
        x.isolator(1, 0).is(NOT_POSSIBLE);
        x.fetch(0);
        x.isolator(0, 1).is(0);
    }

    private static void p3EarthOrToolsOnTheLastSection() {
        Run x = new Run("3: NOT_POSSIBLE if the last of ten sections would become live");
        for (int i = 0; i < 10; i++) {
            x.section(1, i == 0 ? 1 : 0);
        }
        for (int i = 1; i < 9; i++) {
            x.isolator(i, i + 1);
        }
        x.step(0, 9);
        x.step(6, 9);
        x.isolator(0, 1).is(NOT_POSSIBLE);
        x.isolator(9, 0).is(NOT_POSSIBLE);
        x.enter(9, 1, 0);
        x.leave(9, 0);
        x.step(7, 9);
        x.isolator(0, 1).is(NOT_POSSIBLE);
        x.isolator(9, 0).is(NOT_POSSIBLE);
        x.fetch(9);
        x.isolator(0, 1).is(8);
        x.count(4).is(10);
    }

    private static void p3NotPossibleOnlyIfItWouldBecomeLive() {
        Run x = Run.earthed("3: possible if a section with an earth stays dead");
        x.section(1, 0);
        x.section(1, 1);
        x.isolator(1, 2).is(0);
        x.isolator(2, 1).is(1);
        x.isolator(0, 3).is(2);
        x.step(0, 0);
        x.step(0, 3);
        x.step(4, 0);
        x.isolator(0, 1).is(NOT_POSSIBLE);
        x.step(4, 3);
        x.isolator(0, 1).is(3);
        x.count(4).is(0);
    }

    private static void p3Limit() {
        Run x = new Run("3: LIMIT_REACHED if there are 16");
        x.section(1, 1);
        x.section(1, 0);
        x.section(1, 0);
        for (int i = 0; i < 16; i++) {
            x.isolator(i % 2, 1 - i % 2).is(i);
        }
        x.isolator(0, 1).is(LIMIT);
        x.isolator(1, 2).is(LIMIT);
        x.undo();
        x.isolator(1, 2).is(15);
        x.isolator(1, 2).is(LIMIT);
        x.step(0, 2);
        x.step(2, 15);
        x.isolator(1, 2).is(LIMIT);
    }

    private static void p4Buses() {
        Run x = new Run("4: buses: 0 to 40");
        for (int wrong : new int[] {MIN, -1, 41, 42, MAX}) {
            x.pool(wrong).is(INVALID);
            x.count(2).is(12);
        }
        x.pool(0).is(0);
        x.count(2).is(0);
        x.pool(40).is(40);
        x.count(2).is(40);
    }

    private static void p4FreeBusesThen() {
        Run x = new Run("4: returns the free buses then");
        x.section(5, 1);
        x.section(4, 1);
        x.pool(9).is(9);
        x.step(0, 0);
        x.pool(9).is(4);
        x.step(0, 1);
        x.pool(9).is(0);
        x.pool(40).is(31);
        x.step(1, 0);
        x.pool(39).is(35);
    }

    private static void p4NotPossible() {
        Run x = new Run("4: NOT_POSSIBLE if more of them bridge sections now");
        x.section(5, 1);
        x.section(4, 1);
        x.step(0, 0);
        x.pool(4).is(NOT_POSSIBLE);
        x.pool(0).is(NOT_POSSIBLE);
        x.pool(5).is(0);
        x.pool(9).is(4);
        x.step(0, 1);
        x.pool(8).is(NOT_POSSIBLE);
        x.count(2).is(9);
        x.step(1, 0);
        x.pool(8).is(4);
        x.pool(4).is(0);
    }

    private static void p5Section() {
        Run x = new Run("5: section: number of the section");
        x.sectionOf(0, 0).is(INVALID);
        x.section(6, 1);
        x.section(7, 1);
        x.sectionOf(0, 0).is(6);
        x.sectionOf(1, 0).is(7);
        for (int wrong : new int[] {MIN, -1, 2, 9, 10, 11, MAX}) {
            x.sectionOf(wrong, 0).is(INVALID);
            x.sectionOf(wrong, 10).is(INVALID);
        }
    }

    private static void p5What() {
        Run x = new Run("5: what: 0 to 10");
        x.section(1, 1);
        for (int wrong : new int[] {MIN, -1, 11, 12, MAX}) {
            x.sectionOf(0, wrong).is(INVALID);
        }
        int[] due = {1, 2, 1, 1, 0, 0, 0, 0, 1, 0, NOT_FOUND};
        for (int what = 0; what <= 10; what++) {
            x.sectionOf(0, what).is(due[what]);
        }
    }

    private static void p5Buses() {
        Run x = new Run("5: 0: the buses that it needs");
        x.section(1, 1);
        x.section(9, 1);
        x.sectionOf(0, 0).is(1);
        x.sectionOf(1, 0).is(9);
        x.step(0, 1);
        x.sectionOf(1, 0).is(9);
    }

    private static void p5Feeder() {
        Run x = Run.deadRow("5: 1: its feeder, 0 none, 1 off, 2 on", 2);
        x.sectionOf(0, 1).is(1);
        x.sectionOf(1, 1).is(0);
        x.step(5, 0);
        x.sectionOf(0, 1).is(2);
        x.sectionOf(1, 1).is(0);
    }

    private static void p5Live() {
        Run x = Run.row("5: 2: 1 if it is live, otherwise 0", 2);
        x.sectionOf(0, 2).is(1);
        x.sectionOf(1, 2).is(1);
        x.step(0, 1);
        x.step(2, 0);
        x.sectionOf(0, 2).is(1);
        x.sectionOf(1, 2).is(0);
    }

    private static void p5SecondWay() {
        Run x = Run.row("5: 3: the same in the second way", 2);
        x.sectionOf(0, 3).is(1);
        x.sectionOf(1, 3).is(1);
        x.step(0, 1);
        x.step(2, 0);
        x.sectionOf(0, 3).is(1);
        x.sectionOf(1, 3).is(0);
        x.undo();
        x.sectionOf(1, 3).is(1);
    }

    private static void p5Bridged() {
        Run x = Run.row("5: 4: 1 if it is bridged, otherwise 0", 2);
        x.step(0, 1);
        x.sectionOf(0, 4).is(0);
        x.sectionOf(1, 4).is(1);
        x.step(1, 1);
        x.sectionOf(1, 4).is(0);
    }

    private static void p5Earth() {
        Run x = Run.deadRow("5: 5: 1 if it has an earth, otherwise 0", 2);
        x.step(6, 1);
        x.sectionOf(0, 5).is(0);
        x.sectionOf(1, 5).is(1);
        x.step(7, 1);
        x.sectionOf(1, 5).is(0);
    }

    private static void p5Gang() {
        Run x = Run.earthed("5: 6: 1 if a gang is there, otherwise 0");
        x.sectionOf(1, 6).is(0);
        x.enter(1, 0, 0);
        x.sectionOf(1, 6).is(1);
        x.sectionOf(0, 6).is(0);
        x.leave(1, 0);
        x.sectionOf(1, 6).is(0);
    }

    private static void p5Tools() {
        Run x = Run.withTools("5: 7: tools that were left on it", 50);
        x.sectionOf(1, 7).is(50);
        x.sectionOf(0, 7).is(0);
        x.step(6, 1);
        x.enter(1, 50, 0);
        x.sectionOf(1, 7).is(50);
        x.leave(1, 0);
        x.sectionOf(1, 7).is(100);
        x.fetch(1);
        x.sectionOf(1, 7).is(0);
    }

    private static void p5Together() {
        Run x = Run.row("5: 8: sections that hang together with it, itself included", 3);
        x.section(1, 0);
        x.sectionOf(3, 8).is(1);
        x.sectionOf(0, 8).is(3);
        x.step(0, 2);
        x.step(2, 1);
        x.sectionOf(0, 8).is(2);
        x.sectionOf(2, 8).is(1);
        x.isolator(2, 3);
        x.sectionOf(2, 8).is(2);
        x.sectionOf(3, 8).is(2);
    }

    private static void p5ClosedIsolators() {
        Run x = Run.row("5: 9: closed isolators at it", 3);
        x.section(1, 0);
        x.sectionOf(3, 9).is(0);
        x.sectionOf(0, 9).is(1);
        x.sectionOf(1, 9).is(2);
        x.isolator(2, 0);
        x.isolator(1, 0);
        x.sectionOf(0, 9).is(3);
        x.step(2, 0);
        x.sectionOf(0, 9).is(2);
        x.sectionOf(1, 9).is(2);
        x.sectionOf(2, 9).is(2);
    }

    private static void p5FullNet() {
        Run x = Run.full("5: of ten sections and sixteen isolators");
        for (int i = 0; i < 10; i++) {
            x.sectionOf(i, 2).is(1);
            x.sectionOf(i, 3).is(1);
            x.sectionOf(i, 8).is(10);
            x.sectionOf(i, 9).is(i == 0 || i == 9 ? 1 : i == 4 || i == 5 ? 9 : 2);
        }
        x.step(2, 8).is(1);
        for (int i = 0; i < 10; i++) {
            x.sectionOf(i, 2).is(i / 9);
            x.sectionOf(i, 3).is(i / 9);
            x.sectionOf(i, 8).is(i < 9 ? 9 : 1);
        }
        Run y = new Run("5: 9: sixteen closed isolators at it");
        y.section(1, 1);
        y.section(1, 1);
        for (int i = 0; i < 16; i++) {
            y.isolator(0, 1);
        }
        y.sectionOf(0, 9).is(16);
        y.sectionOf(1, 9).is(16);
        y.step(2, 15);
        y.sectionOf(1, 9).is(15);
        y.undo();
        y.undo();
        y.sectionOf(1, 9).is(15);
    }

    private static void p5Until() {
        Run x = Run.earthed("5: 10: the time until which the gang is there; NOT_FOUND without a gang");
        x.sectionOf(1, 10).is(NOT_FOUND);
        x.enter(1, 0, 0);
        x.sectionOf(1, 10).is(0);
        x.sectionOf(0, 10).is(NOT_FOUND);
        x.leave(1, 0);
        x.sectionOf(1, 10).is(NOT_FOUND);
        x.enter(1, 0, 100000);
        x.pass(5);
        x.sectionOf(1, 10).is(100000);
    }

    private static void p6Isolator() {
        Run x = new Run("6: isolator: number of the isolator");
        x.isolatorOf(0, 0).is(INVALID);
        x.section(1, 1);
        x.section(1, 1);
        x.isolatorOf(0, 0).is(INVALID);
        x.isolator(0, 1);
        x.isolator(1, 0);
        x.isolatorOf(0, 0).is(0);
        x.isolatorOf(1, 0).is(1);
        for (int wrong : new int[] {MIN, -1, 2, 15, 16, 17, MAX}) {
            x.isolatorOf(wrong, 0).is(INVALID);
            x.isolatorOf(wrong, 5).is(INVALID);
        }
    }

    private static void p6What() {
        Run x = Run.row("6: what: 0 to 5", 2);
        for (int wrong : new int[] {MIN, -1, 6, 7, MAX}) {
            x.isolatorOf(0, wrong).is(INVALID);
        }
        int[] due = {0, 1, 1, 1, 1, 0};
        for (int what = 0; what <= 5; what++) {
            x.isolatorOf(0, what).is(due[what]);
        }
    }

    private static void p6AsTold() {
        Run x = Run.row("6: 0: its first section, as told; 1: its second one", 3);
        x.isolator(2, 0);
        x.isolatorOf(2, 0).is(2);
        x.isolatorOf(2, 1).is(0);
        x.isolatorOf(1, 0).is(1);
        x.isolatorOf(1, 1).is(2);
    }

    private static void p6Closed() {
        Run x = Run.row("6: 2: 1 if it is closed, otherwise 0", 2);
        x.isolator(0, 1);
        x.step(2, 0);
        x.isolatorOf(0, 2).is(0);
        x.isolatorOf(1, 2).is(1);
        x.step(3, 0);
        x.isolatorOf(0, 2).is(1);
    }

    private static void p6SecondWay() {
        Run x = Run.row("6: 3: the same in the second way", 2);
        x.isolator(0, 1);
        x.step(2, 0);
        x.isolatorOf(0, 3).is(0);
        x.isolatorOf(1, 3).is(1);
        x.step(3, 0);
        x.isolatorOf(0, 3).is(1);
        x.undo();
        x.isolatorOf(0, 3).is(0);
    }

    private static void p6Darkened() {
        Run x = Run.row("6: 4: how many live sections would be dead, if it were opened", 4);
        x.isolatorOf(0, 4).is(3);
        x.isolatorOf(1, 4).is(2);
        x.isolatorOf(2, 4).is(1);
        x.isolator(3, 1);
        x.isolatorOf(0, 4).is(3);
        x.isolatorOf(1, 4).is(0);
        x.section(1, 1);
        x.isolator(4, 3);
        x.isolatorOf(0, 4).is(0);
        x.isolatorOf(4, 4).is(0);
        x.step(0, 3);
        x.isolatorOf(0, 4).is(0);
        x.count(4).is(5);
    }

    private static void p6NoneIfItIsOpen() {
        Run x = Run.row("6: 4: 0 if it is open", 3);
        x.step(0, 1);
        x.step(0, 2);
        x.isolatorOf(0, 4).is(2);
        x.step(2, 0);
        x.isolatorOf(0, 4).is(0);
        x.isolatorOf(1, 4).is(0);
    }

    private static void p6Lit() {
        Run x = Run.row("6: 5: how many dead sections would be live, if it were closed", 4);
        for (int i = 0; i < 4; i++) {
            x.step(0, i);
        }
        x.step(2, 0);
        x.step(2, 1);
        x.isolatorOf(0, 5).is(1);
        x.isolatorOf(1, 5).is(0);
        x.step(3, 1);
        x.isolatorOf(0, 5).is(3);
        x.step(6, 3);
        x.isolatorOf(0, 5).is(3);
        x.step(2, 2);
        x.isolatorOf(0, 5).is(2);
        x.isolatorOf(2, 5).is(0);
        x.count(4).is(1);
    }

    private static void p6NoneIfItIsClosed() {
        Run x = Run.row("6: 5: 0 if it is closed", 2);
        x.isolatorOf(0, 5).is(0);
        x.section(1, 0);
        x.section(1, 0);
        x.isolator(2, 3);
        x.isolatorOf(1, 5).is(0);
    }

    private static void p6FullNet() {
        Run x = Run.full("6: of ten sections and sixteen isolators");
        x.isolatorOf(0, 4).is(1);
        x.isolatorOf(8, 4).is(9);
        x.isolatorOf(15, 4).is(0);
        x.isolatorOf(15, 0).is(4);
        x.isolatorOf(15, 1).is(5);
        x.step(2, 8).is(1);
        x.isolatorOf(8, 5).is(9);
        x.isolatorOf(8, 4).is(0);
        x.isolatorOf(15, 4).is(0);
        x.isolatorOf(15, 5).is(0);
        x.step(2, 0).is(1);
        x.isolatorOf(0, 5).is(0);
        x.isolatorOf(8, 5).is(8);
        x.step(3, 8).is(9);
        x.isolatorOf(0, 5).is(1);
    }

    private static void p7What() {
        Run x = new Run("7: what: 0 to 15");
        for (int wrong : new int[] {MIN, -1, 16, 17, MAX}) {
            x.count(wrong).is(INVALID);
        }
        for (int what = 0; what <= 15; what++) {
            x.count(what).is(what == 2 || what == 3 ? 12 : 0);
        }
    }

    private static void p7Sections() {
        Run x = new Run("7: 0: sections");
        for (int i = 0; i <= 10; i++) {
            x.count(0).is(i);
            x.section(1, 0).is(i < 10 ? i : LIMIT);
        }
        x.count(0).is(10);
        x.undo();
        x.count(0).is(9);
    }

    private static void p7Isolators() {
        Run x = new Run("7: 1: isolators");
        x.section(1, 0);
        x.section(1, 0);
        for (int i = 0; i <= 16; i++) {
            x.count(1).is(i);
            x.isolator(0, 1).is(i < 16 ? i : LIMIT);
        }
        x.step(2, 0);
        x.count(1).is(16);
    }

    private static void p7Pool() {
        Run x = new Run("7: 2: the pool");
        x.section(2, 1);
        x.step(0, 0);
        x.count(2).is(12);
        x.pool(40);
        x.count(2).is(40);
        x.pool(41).is(INVALID);
        x.count(2).is(40);
    }

    private static void p7FreeBuses() {
        Run x = new Run("7: 3: free buses");
        x.section(9, 1);
        x.section(3, 1);
        x.step(0, 0);
        x.count(3).is(3);
        x.step(0, 1);
        x.count(3).is(0);
        x.step(1, 0);
        x.count(3).is(9);
    }

    private static void p7Live() {
        Run x = Run.row("7: 4: live sections", 3);
        x.count(4).is(3);
        x.section(1, 0);
        x.count(4).is(3);
        x.section(1, 1);
        x.count(4).is(4);
        x.step(0, 4);
        x.step(4, 4);
        x.count(4).is(3);
    }

    private static void p7Bridged() {
        Run x = Run.row("7: 5: bridged ones", 3);
        x.count(5).is(0);
        for (int i = 0; i < 3; i++) {
            x.step(0, i);
            x.count(5).is(i + 1);
        }
        x.step(1, 1);
        x.count(5).is(2);
    }

    private static void p7Gangs() {
        Run x = Run.deadRow("7: 6: gangs", 2);
        x.step(6, 0);
        x.step(6, 1);
        x.count(6).is(0);
        x.enter(0, 0, 0);
        x.count(6).is(1);
        x.enter(1, 0, 0);
        x.count(6).is(2);
        x.leave(0, 0);
        x.count(6).is(1);
    }

    private static void p7Tools() {
        Run x = Run.deadRow("7: 7: tools that were left on all sections", 2);
        x.step(6, 0);
        x.step(6, 1);
        x.enter(0, 5, 0);
        x.enter(1, 7, 0);
        x.count(7).is(0);
        x.leave(0, 1);
        x.count(7).is(4);
        x.leave(1, 0);
        x.count(7).is(11);
        x.fetch(0);
        x.count(7).is(7);
    }

    private static void p7Time() {
        Run x = new Run("7: 8: the time");
        x.pass(1);
        x.count(8).is(1);
        for (int i = 0; i < 9; i++) {
            x.pass(10000);
        }
        x.pass(9999).is(100000);
        x.count(8).is(100000);
    }

    private static void p7StepsMade() {
        Run x = new Run("7: 9: steps that were made");
        x.section(1, 1);
        for (int i = 1; i <= 30; i++) {
            x.step(1 - i % 2, 0).is(1);
            x.count(9).is(i);
        }
        x.step(1, 0).is(NOT_POSSIBLE);
        x.count(9).is(30);
        x.text("b0;t0;").play().is(2);
        x.count(9).is(32);
        x.undo();
        x.count(9).is(30);
    }

    private static void p7StepsInTheLog() {
        Run x = new Run("7: 10: steps in the log");
        x.section(1, 1);
        for (int i = 1; i <= 30; i++) {
            x.step(1 - i % 2, 0).is(1);
            x.count(10).is(Math.min(i, 24));
        }
        x.undo();
        x.count(10).is(24);
        x.text("b0;t0;b0;").play().is(NOT_POSSIBLE);
        x.count(10).is(24);
    }

    private static void p7LateMinutes() {
        Run x = Run.deadRow("7: 11: late minutes of all gangs that left", 2);
        x.step(6, 0);
        x.step(6, 1);
        x.enter(0, 0, 5);
        x.enter(1, 0, 8);
        x.pass(7);
        x.count(11).is(0);
        x.leave(1, 0).is(0);
        x.count(11).is(0);
        x.leave(0, 0).is(2);
        x.count(11).is(2);
        x.enter(1, 0, 7);
        x.pass(10);
        x.leave(1, 0).is(10);
        x.count(11).is(12);
    }

    private static void p7LateNow() {
        Run x = Run.deadRow("7: 12: gangs that are late now", 2);
        x.step(6, 0);
        x.step(6, 1);
        x.enter(0, 0, 5);
        x.enter(1, 0, 6);
        x.pass(5);
        x.count(12).is(0);
        x.pass(1);
        x.count(12).is(1);
        x.pass(1);
        x.count(12).is(2);
        x.leave(0, 0).is(2);
        x.count(12).is(1);
        x.leave(1, 0).is(1);
        x.count(12).is(0);
    }

    private static void p7Groups() {
        Run x = new Run("7: 13: groups of sections that hang together");
        x.count(13).is(0);
        for (int i = 0; i < 4; i++) {
            x.section(1, 1);
            x.count(13).is(i + 1);
        }
        x.isolator(3, 0);
        x.count(13).is(3);
        x.isolator(0, 3);
        x.count(13).is(3);
        x.isolator(1, 2);
        x.count(13).is(2);
        x.isolator(3, 2);
        x.count(13).is(1);
        x.step(2, 3);
        x.count(13).is(2);
    }

    private static void p7States() {
        Run x = new Run("7: 14: states in the history");
        for (int i = 0; i <= 6; i++) {
            x.count(14).is(Math.min(i, 5));
            x.pass(1);
        }
        x.undo();
        x.count(14).is(4);
    }

    private static void p7LengthOfTheText() {
        Run x = new Run("7: 15: the length of the text");
        for (int i = 0; i <= 60; i++) {
            x.count(15).is(i);
            x.type('x').is(i < 60 ? i + 1 : LIMIT);
        }
        x.count(15).is(60);
        x.clearText();
        x.count(15).is(0);
    }

    private static void p8Latest() {
        Run x = new Run("8: restores the latest state of the history, which is removed from it");
        x.pass(1);
        x.pass(10);
        x.undo();
        x.count(8).is(1);
        x.pass(100).is(101);
        x.undo();
        x.count(8).is(1);
        x.undo();
        x.count(8).is(0);
    }

    private static void p8StatesLeft() {
        Run x = new Run("8: returns the number of states that are left in the history");
        x.pass(1);
        x.undo().is(0);
        x.pass(1);
        x.pass(1);
        x.undo().is(1);
        x.undo().is(0);
        for (int i = 0; i < 9; i++) {
            x.pass(1);
        }
        for (int i = 4; i >= 0; i--) {
            x.undo().is(i);
        }
    }

    private static void p8Empty() {
        Run x = new Run("8: NOT_POSSIBLE if it is empty");
        x.undo().is(NOT_POSSIBLE);
        x.undo().is(NOT_POSSIBLE);
        x.pass(1);
        x.undo().is(0);
        x.undo().is(NOT_POSSIBLE);
        for (int i = 0; i < 6; i++) {
            x.pass(1);
        }
        for (int i = 4; i >= 0; i--) {
            x.undo().is(i);
        }
        x.undo().is(NOT_POSSIBLE);
        x.count(8).is(1);
    }

    private static void p8NumbersAreGivenAgain() {
        Run x = new Run("8: what was added and undone leaves nothing behind");
        x.section(1, 1);
        x.section(9, 1);
        x.isolator(0, 1);
        x.step(0, 1);
        x.step(2, 0);
        for (int i = 3; i >= 0; i--) {
            x.undo();
        }
        x.count(0).is(1);
        x.section(2, 0).is(1);
        x.sectionOf(1, 1).is(0);
        x.sectionOf(1, 2).is(0);
        x.sectionOf(1, 3).is(0);
        x.sectionOf(1, 4).is(0);
        x.isolator(1, 0).is(0);
        x.isolatorOf(0, 0).is(1);
        x.isolatorOf(0, 3).is(1);
        x.sectionOf(1, 2).is(1);
        x.sectionOf(1, 3).is(1);
        x.count(10).is(0);
    }
}

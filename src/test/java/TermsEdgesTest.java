/** The document's "Terms": a test for each sentence of Net, Service, Gangs, Second way and Texts that has an edge. */
public final class TermsEdgesTest {
    private static final int INVALID = Run.INVALID;
    private static final int NOT_POSSIBLE = Run.NOT_POSSIBLE;
    private static final int LIMIT = Run.LIMIT;
    private static final int NOT_FOUND = Run.NOT_FOUND;

    public static void main(String[] args) {
        net();
        service();
        gangs();
        secondWay();
        texts();
        Check.end("TermsEdgesTest");
    }

    private static void net() {
        atMost512Calls();
        atMostTenSections();
        atMostSixteenIsolators();
        needsOneToNineBuses();
        hasFeederOrNone();
        joinsTwoDifferentSections();
        severalJoinTheSameTwo();
        isolatorIsClosedFirst();
        feederIsOnFirst();
        togetherOverClosedIsolators();
        togetherOverTen();
        liveByItself();
        liveByAnother();
        otherwiseDead();
    }

    private static void service() {
        runByTramsFirst();
        poolIsTwelveFirst();
        poolFromNoneToForty();
        freeBusesAreThoseThatDoNotBridge();
        noEarthFirst();
        noGangFirst();
        noToolsFirst();
    }

    private static void gangs() {
        toolsFromNoneToFifty();
        mustHaveAnEarth();
        mustHaveNoGang();
        othersAreLeft();
        lateIfAboveNone();
        fetchedWithoutAGang();
        fetchedIfDead();
    }

    private static void secondWay() {
        firstOneFromTheLatestTells();
        otherKindsTellNothing();
        sameNumberOfAnotherSortTellsNothing();
        isolatorAheadOfTheLog();
        firstStepOfAllLeavesTheLog();
        feederAheadOfTheLog();
        nothingInTheLog();
        liveInTheSecondWay();
        liveOutwardOverTen();
    }

    private static void texts() {
        atMostSixtyCharacters();
        textIsEmptyFirst();
        eachStepIsFollowedBySemicolon();
        lettersOfTheSteps();
        noOtherLetter();
        oneOrTwoDigits();
        zeroAhead();
        numberOfSectionOrIsolator();
        wiresAsTheyAreNow();
        positionFromZero();
        firstStepThatIsNotPossible();
        reasonOneForForm();
        reasonTwoForNoSuchPlace();
        otherwiseReasonOfRefusal();
        whenThoseAheadAreMade();
    }

    private static void atMost512Calls() {
        Run x = new Run("used for at most 512 calls");
        x.section(1, 1).is(0);
        for (int i = 0; i < 500; i++) {
            x.step(i % 2, 0).is(1);
        }
        x.undo().is(4);
        x.undo().is(3);
        x.undo().is(2);
        x.count(9).is(497);
        x.count(10).is(24);
        x.count(14).is(2);
        x.log(0, 0).is(0);
        x.log(23, 0).is(1);
        x.refusal(0, 0).is(11);
        x.step(1, 0).is(1);
        x.count(9).is(498);
        Check.due("the last one was the 512th", x.calls(), Run.MOST_CALLS);
    }

    private static void atMostTenSections() {
        Run x = new Run("at most 10 sections, numbered from 0");
        for (int i = 0; i < 10; i++) {
            x.count(0).is(i);
            x.section(9 - i % 9, 0).is(i);
        }
        x.section(1, 0).is(LIMIT);
        x.count(0).is(10);
        for (int i = 0; i < 10; i++) {
            x.sectionOf(i, 0).is(9 - i % 9);
        }
        x.sectionOf(10, 0).is(INVALID);
    }

    private static void atMostSixteenIsolators() {
        Run x = new Run("at most 16 isolators, numbered from 0");
        for (int i = 0; i < 10; i++) {
            x.section(1, 1);
        }
        for (int i = 0; i < 16; i++) {
            x.count(1).is(i);
            x.isolator(i % 10, (i + 1 + i / 10) % 10).is(i);
        }
        x.isolator(0, 1).is(LIMIT);
        x.count(1).is(16);
        for (int i = 0; i < 16; i++) {
            x.isolatorOf(i, 0).is(i % 10);
            x.isolatorOf(i, 1).is((i + 1 + i / 10) % 10);
        }
        x.isolatorOf(16, 0).is(INVALID);
    }

    private static void needsOneToNineBuses() {
        Run x = new Run("needs buses (1 to 9) to be bridged");
        x.section(1, 0);
        x.section(9, 0);
        x.pool(0);
        x.refusal(0, 0).is(12);
        x.pool(1);
        x.refusal(0, 0).is(0);
        x.pool(8);
        x.refusal(0, 1).is(12);
        x.pool(9);
        x.refusal(0, 1).is(0);
    }

    private static void hasFeederOrNone() {
        Run x = new Run("has a feeder or none");
        x.section(1, 0);
        x.section(1, 1);
        x.sectionOf(0, 1).is(0);
        x.sectionOf(1, 1).is(2);
        x.refusal(4, 0).is(51);
        x.refusal(5, 0).is(61);
    }

    private static void joinsTwoDifferentSections() {
        Run x = new Run("An isolator joins two different sections");
        x.section(1, 1);
        x.section(1, 0);
        x.isolator(0, 0).is(INVALID);
        x.isolator(1, 1).is(INVALID);
        x.isolator(0, 1).is(0);
        x.sectionOf(0, 8).is(2);
        x.sectionOf(1, 8).is(2);
    }

    private static void severalJoinTheSameTwo() {
        Run x = Run.row("several isolators may join the same two", 2);
        x.isolator(0, 1).is(1);
        x.isolator(1, 0).is(2);
        x.step(0, 1);
        x.step(2, 0).is(2);
        x.step(2, 2).is(2);
        x.sectionOf(1, 8).is(2);
        x.step(2, 1).is(1);
        x.sectionOf(1, 8).is(1);
        x.step(3, 2).is(2);
    }

    private static void isolatorIsClosedFirst() {
        Run x = Run.row("It is closed (initially) or open", 2);
        x.isolatorOf(0, 2).is(1);
        x.isolatorOf(0, 3).is(1);
        x.step(0, 1);
        x.step(2, 0);
        x.isolatorOf(0, 2).is(0);
        x.isolator(1, 0).is(1);
        x.isolatorOf(1, 2).is(1);
        x.isolatorOf(0, 2).is(0);
    }

    private static void feederIsOnFirst() {
        Run x = new Run("a feeder is on (initially) or off");
        x.section(1, 1);
        x.sectionOf(0, 1).is(2);
        x.sectionOf(0, 3).is(1);
        x.step(0, 0);
        x.step(4, 0);
        x.sectionOf(0, 1).is(1);
        x.section(1, 1).is(1);
        x.sectionOf(1, 1).is(2);
        x.sectionOf(0, 1).is(1);
    }

    private static void togetherOverClosedIsolators() {
        Run x = new Run("comes from one to the other over closed isolators");
        for (int i = 0; i < 4; i++) {
            x.section(1, 1);
            x.sectionOf(i, 8).is(1);
        }
        x.isolator(3, 2);
        x.isolator(0, 1);
        x.count(13).is(2);
        x.isolator(2, 1);
        x.sectionOf(0, 8).is(4);
        x.sectionOf(3, 8).is(4);
        x.step(2, 2);
        x.sectionOf(0, 8).is(2);
        x.sectionOf(2, 8).is(2);
        x.step(2, 0);
        x.sectionOf(3, 8).is(1);
        x.sectionOf(1, 8).is(2);
        x.count(13).is(3);
    }

    private static void togetherOverTen() {
        Run x = new Run("hang together over all ten sections");
        int[] way = {7, 2, 9, 0, 5, 8, 1, 6, 3, 4};
        for (int i = 0; i < 10; i++) {
            x.section(1, i == 4 ? 1 : 0);
        }
        for (int i = 0; i < 9; i++) {
            x.count(13).is(10 - i);
            x.isolator(way[i], way[i + 1]).is(i);
        }
        x.count(13).is(1);
        x.sectionOf(7, 8).is(10);
        x.sectionOf(7, 2).is(1);
        x.sectionOf(7, 3).is(1);
        x.count(4).is(10);
    }

    private static void liveByItself() {
        Run x = new Run("live if it hangs together with itself, whose feeder is on");
        x.section(1, 1);
        x.sectionOf(0, 2).is(1);
        x.section(1, 0);
        x.sectionOf(1, 2).is(0);
    }

    private static void liveByAnother() {
        Run x = Run.row("live if it hangs together with a section whose feeder is on", 3);
        x.sectionOf(2, 2).is(1);
        x.section(1, 1);
        x.isolator(3, 2);
        for (int i = 0; i < 4; i++) {
            x.step(0, i);
        }
        x.step(4, 0).is(4);
        x.sectionOf(0, 2).is(1);
        x.step(4, 3).is(0);
        x.sectionOf(0, 2).is(0);
    }

    private static void otherwiseDead() {
        Run x = Run.deadRow("otherwise it is dead", 3);
        for (int i = 0; i < 3; i++) {
            x.sectionOf(i, 2).is(0);
            x.sectionOf(i, 3).is(0);
        }
        x.section(1, 1).is(3);
        x.sectionOf(0, 2).is(0);
        x.sectionOf(3, 2).is(1);
    }

    private static void runByTramsFirst() {
        Run x = new Run("run by trams (initially)");
        x.section(1, 1);
        x.sectionOf(0, 4).is(0);
        x.refusal(1, 0).is(21);
        x.count(5).is(0);
        x.step(0, 0);
        x.section(1, 1);
        x.sectionOf(1, 4).is(0);
    }

    private static void poolIsTwelveFirst() {
        Run x = new Run("a pool of buses (initially 12)");
        x.count(2).is(12);
        x.count(3).is(12);
        x.section(9, 1);
        x.section(3, 1);
        x.section(1, 1);
        x.step(0, 0);
        x.step(0, 1).is(3);
        x.refusal(0, 2).is(12);
    }

    private static void poolFromNoneToForty() {
        Run x = new Run("a pool of buses (0 to 40)");
        x.pool(-1).is(INVALID);
        x.pool(0).is(0);
        x.count(2).is(0);
        x.pool(40).is(40);
        x.pool(41).is(INVALID);
        x.count(2).is(40);
    }

    private static void freeBusesAreThoseThatDoNotBridge() {
        Run x = new Run("free buses are those of the pool that do not bridge a section now");
        x.section(5, 1);
        x.section(7, 1);
        x.count(3).is(12);
        x.step(0, 0);
        x.count(3).is(7);
        x.step(0, 1);
        x.count(3).is(0);
        x.pool(13).is(1);
        x.step(1, 0);
        x.count(3).is(6);
        x.count(2).is(13);
    }

    private static void noEarthFirst() {
        Run x = new Run("an earth or none (initially)");
        x.section(1, 0);
        x.sectionOf(0, 5).is(0);
        x.refusal(7, 0).is(81);
        x.enter(0, 0, 0).is(NOT_POSSIBLE);
    }

    private static void noGangFirst() {
        Run x = Run.earthed("a gang or none (initially)");
        x.sectionOf(1, 6).is(0);
        x.sectionOf(1, 10).is(NOT_FOUND);
        x.leave(1, 0).is(NOT_POSSIBLE);
        x.count(6).is(0);
        x.count(12).is(0);
    }

    private static void noToolsFirst() {
        Run x = Run.earthed("a number of tools that were left on it (initially 0)");
        x.sectionOf(1, 7).is(0);
        x.fetch(1).is(NOT_POSSIBLE);
        x.count(7).is(0);
    }

    private static void toolsFromNoneToFifty() {
        Run x = Run.earthed("a number of tools (0 to 50)");
        x.enter(1, -1, 0).is(INVALID);
        x.enter(1, 51, 0).is(INVALID);
        x.enter(1, 0, 0).is(1);
        x.leave(1, 0).is(0);
        x.sectionOf(1, 7).is(0);
        x.enter(1, 50, 0).is(1);
        x.leave(1, 0).is(0);
        x.sectionOf(1, 7).is(50);
    }

    private static void mustHaveAnEarth() {
        Run x = Run.earthed("the section must have an earth");
        x.enter(0, 0, 0).is(NOT_POSSIBLE);
        x.step(7, 1);
        x.enter(1, 0, 0).is(NOT_POSSIBLE);
        x.step(6, 1);
        x.enter(1, 0, 0).is(1);
    }

    private static void mustHaveNoGang() {
        Run x = Run.earthed("the section must have no gang");
        x.enter(1, 3, 9).is(1);
        x.enter(1, 3, 9).is(NOT_POSSIBLE);
        x.count(6).is(1);
        x.leave(1, 3).is(0);
        x.enter(1, 3, 9).is(1);
    }

    private static void othersAreLeft() {
        Run x = Run.earthed("it takes a number of tools with it; the others are left");
        x.enter(1, 5, 0);
        x.sectionOf(1, 7).is(0);
        x.leave(1, 5);
        x.sectionOf(1, 7).is(0);
        x.enter(1, 5, 0);
        x.leave(1, 4);
        x.sectionOf(1, 7).is(1);
        x.enter(1, 5, 0);
        x.sectionOf(1, 7).is(1);
        x.leave(1, 0);
        x.sectionOf(1, 7).is(6);
        x.fetch(1).is(6);
    }

    private static void lateIfAboveNone() {
        Run x = Run.earthed("late by the time now minus the time that was told, if that is above 0");
        x.enter(1, 0, 10);
        x.pass(9);
        x.count(12).is(0);
        x.leave(1, 0).is(0);
        x.enter(1, 0, 10);
        x.pass(1);
        x.count(12).is(0);
        x.leave(1, 0).is(0);
        x.enter(1, 0, 10);
        x.pass(1);
        x.count(12).is(1);
        x.leave(1, 0).is(1);
        x.count(11).is(1);
    }

    private static void fetchedWithoutAGang() {
        Run x = Run.withTools("fetched from a section without a gang", 2);
        x.step(6, 1);
        x.enter(1, 0, 0);
        x.fetch(1).is(NOT_POSSIBLE);
        x.leave(1, 0);
        x.fetch(1).is(2);
    }

    /** No call can make a section with tools live, so the other half can't be seen. */
    private static void fetchedIfDead() {
        Run x = Run.withTools("can be fetched, if it is dead", 50);
        x.sectionOf(1, 2).is(0);
        x.isolator(0, 1).is(NOT_POSSIBLE);
        x.fetch(1).is(50);
        x.isolator(0, 1).is(0);
        x.sectionOf(1, 2).is(1);
        x.fetch(1).is(NOT_POSSIBLE);
    }

    private static void firstOneFromTheLatestTells() {
        Run x = Run.deadRow("going back from the latest step, the first one that set it tells it", 2);
        x.step(2, 0);
        x.isolatorOf(0, 3).is(0);
        x.step(3, 0);
        x.isolatorOf(0, 3).is(1);
        x.step(5, 0);
        x.sectionOf(0, 3).is(1);
        x.step(4, 0);
        x.sectionOf(0, 3).is(0);
        x.isolatorOf(0, 3).is(1);
        x.step(2, 0);
        x.isolatorOf(0, 3).is(0);
        x.step(5, 0);
        x.sectionOf(0, 3).is(1);
        x.sectionOf(1, 3).is(0);
    }

    private static void otherKindsTellNothing() {
        Run x = Run.deadRow("steps that bridge or earth set no isolator and no feeder", 2);
        x.step(2, 0);
        x.step(6, 0);
        x.step(6, 1);
        x.step(7, 0);
        x.step(7, 1);
        x.isolatorOf(0, 3).is(0);
        x.sectionOf(0, 3).is(0);
        x.step(5, 0);
        x.step(1, 0);
        x.step(0, 0);
        x.isolatorOf(0, 3).is(0);
        x.sectionOf(0, 3).is(1);
    }

    private static void sameNumberOfAnotherSortTellsNothing() {
        Run x = Run.deadRow("a step at an isolator tells nothing of the section of its number", 2);
        x.isolator(1, 0);
        x.step(5, 0);
        x.step(2, 0);
        x.sectionOf(0, 3).is(1);
        x.isolatorOf(0, 3).is(0);
        x.isolatorOf(1, 3).is(1);
        x.step(4, 0);
        x.step(3, 0);
        x.sectionOf(0, 3).is(0);
        x.isolatorOf(0, 3).is(1);
        x.step(2, 1);
        x.step(5, 0);
        x.isolatorOf(0, 3).is(1);
        x.isolatorOf(1, 3).is(0);
        x.step(4, 0);
        x.isolatorOf(0, 3).is(1);
        x.isolatorOf(1, 3).is(0);
    }

    /** Puts the earth on section 1 and takes it off again, until so many steps are made. */
    private static void earthUpAndDown(Run x, int steps) {
        for (int i = 0; i < steps; i++) {
            x.step(i % 2 == 0 ? 6 : 7, 1);
        }
    }

    private static void isolatorAheadOfTheLog() {
        Run x = Run.row("if there is none in the log, the isolator is as it was ahead of the log", 2);
        x.step(0, 1);
        x.step(2, 0);
        earthUpAndDown(x, 22);
        x.log(22, 0).is(2);
        x.isolatorOf(0, 3).is(0);
        x.step(6, 1);
        x.log(23, 0).is(2);
        x.isolatorOf(0, 3).is(0);
        x.step(7, 1);
        x.log(23, 0).is(6);
        x.isolatorOf(0, 3).is(0);
        x.sectionOf(1, 3).is(0);
        x.step(3, 0);
        x.isolatorOf(0, 3).is(1);
        x.sectionOf(1, 3).is(1);
        for (int i = 0; i < 24; i++) {
            x.step(i % 2 == 0 ? 1 : 0, 1);
        }
        x.log(23, 0).is(1);
        x.isolatorOf(0, 3).is(1);
        x.sectionOf(1, 3).is(1);
    }

    private static void firstStepOfAllLeavesTheLog() {
        Run x = new Run("ahead of all steps that the log keeps, after the first step of all");
        for (int i = 0; i < 3; i++) {
            x.section(1, 0);
        }
        x.isolator(0, 1);
        x.isolator(1, 2);
        x.step(2, 0);
        for (int i = 0; i < 24; i++) {
            x.isolatorOf(0, 3).is(0);
            x.step(i % 2 == 0 ? 2 : 3, 1);
        }
        x.log(23, 1).is(1);
        x.isolatorOf(0, 3).is(0);
        x.isolatorOf(1, 3).is(1);
    }

    private static void feederAheadOfTheLog() {
        Run x = Run.deadRow("if there is none in the log, the feeder is as it was ahead of the log", 2);
        earthUpAndDown(x, 23);
        x.log(23, 0).is(4);
        x.sectionOf(0, 3).is(0);
        x.step(7, 1);
        x.log(23, 0).is(6);
        x.sectionOf(0, 3).is(0);
        x.sectionOf(1, 3).is(0);
        x.step(5, 0);
        x.sectionOf(1, 3).is(1);
        for (int i = 0; i < 24; i++) {
            x.step(i % 2 == 0 ? 1 : 0, 0);
        }
        x.log(23, 0).is(1);
        x.sectionOf(0, 3).is(1);
        x.sectionOf(1, 3).is(1);
    }

    private static void nothingInTheLog() {
        Run x = Run.row("none in the log, which is empty", 2);
        x.count(10).is(0);
        x.isolatorOf(0, 3).is(1);
        x.sectionOf(0, 3).is(1);
        x.sectionOf(1, 3).is(1);
        x.section(1, 0);
        x.sectionOf(2, 3).is(0);
    }

    private static void liveInTheSecondWay() {
        Run x = Run.row("live in the second way, from the feeders that are on outward", 3);
        for (int i = 0; i < 3; i++) {
            x.step(0, i);
            x.sectionOf(i, 3).is(1);
        }
        x.step(2, 1);
        x.sectionOf(0, 3).is(1);
        x.sectionOf(1, 3).is(1);
        x.sectionOf(2, 3).is(0);
        x.step(4, 0);
        x.sectionOf(0, 3).is(0);
        x.sectionOf(1, 3).is(0);
        x.sectionOf(2, 3).is(0);
    }

    private static void liveOutwardOverTen() {
        Run x = new Run("outward over ten sections, and back");
        for (int i = 0; i < 10; i++) {
            x.section(1, i == 9 ? 1 : 0);
        }
        for (int i = 0; i < 9; i++) {
            x.isolator(i, i + 1);
        }
        for (int i = 0; i < 10; i++) {
            x.sectionOf(i, 3).is(1);
            x.step(0, i);
        }
        x.step(2, 0);
        x.sectionOf(0, 3).is(0);
        x.sectionOf(1, 3).is(1);
        x.step(2, 8);
        x.sectionOf(8, 3).is(0);
        x.sectionOf(9, 3).is(1);
    }

    private static void atMostSixtyCharacters() {
        Run x = new Run("a text of at most 60 characters");
        for (int i = 1; i <= 60; i++) {
            x.type('b').is(i);
        }
        x.type('b').is(LIMIT);
        x.count(15).is(60);
    }

    private static void textIsEmptyFirst() {
        Run x = new Run("a text, initially empty");
        x.count(15).is(0);
        x.fault(0).is(NOT_FOUND);
        x.clearText().is(0);
        x.play().is(0);
    }

    private static void eachStepIsFollowedBySemicolon() {
        Run x = Run.row("steps, each followed by \";\"", 2);
        x.faultless("b1;b0;");
        x.faulty("b1b0;", 0, 1);
        x.faulty("b1;b0", 3, 1);
        x.faulty("b1:b0;", 0, 1);
        x.faulty("b1,b0;", 0, 1);
        x.faulty(";b1;", 0, 1);
        x.faulty("b1;;b0;", 3, 1);
        x.faulty("b1;b0;;", 6, 1);
        x.faulty(";", 0, 1);
    }

    private static void lettersOfTheSteps() {
        Run x = new Run("a letter for the step");
        x.section(1, 1);
        x.section(1, 1);
        x.isolator(0, 1);
        x.text("b0;b1;o0;f1;e1;u1;n1;c0;t1;").play().is(9);
        for (int i = 0; i < 9; i++) {
            x.log(8 - i, 0).is(new int[] {0, 0, 2, 4, 6, 7, 5, 3, 1}[i]);
            x.log(8 - i, 1).is(new int[] {0, 1, 0, 1, 1, 1, 1, 0, 1}[i]);
        }
        x.sectionOf(0, 4).is(1);
        x.sectionOf(1, 4).is(0);
    }

    private static void noOtherLetter() {
        String letters = "btocfneu";
        for (int from = 32; from <= 126; from += 24) {
            Run x = new Run("no other letter");
            x.section(1, 1);
            for (int c = from; c < from + 24 && c <= 126; c++) {
                boolean isLetter = letters.indexOf(c) >= 0;
                x.text((char) c + "9;");
                x.fault(1).is(isLetter ? 2 : 1);
                x.fault(0).is(0);
            }
        }
    }

    private static void oneOrTwoDigits() {
        Run x = new Run("the number (1 or 2 digits)");
        for (int i = 0; i < 10; i++) {
            x.section(1, 1);
        }
        for (int i = 0; i < 12; i++) {
            x.isolator(0, 1 + i % 9);
        }
        x.faulty("b;", 0, 1);
        x.faultless("b9;");
        x.faultless("o9;");
        x.faultless("o10;");
        x.faultless("o11;");
        x.faulty("o12;", 0, 2);
        x.faulty("b10;", 0, 2);
        x.faulty("b99;", 0, 2);
        x.faulty("b009;", 0, 1);
        x.faulty("o011;", 0, 1);
        x.faulty("b9 ;", 0, 1);
        x.faulty("b 9;", 0, 1);
        x.faulty("b/;", 0, 1);
        x.faulty("b:;", 0, 1);
        x.faulty("b0/;", 0, 1);
        x.faulty("b0:;", 0, 1);
    }

    private static void zeroAhead() {
        Run x = Run.row("0 ahead allowed", 2);
        x.faultless("b00;");
        x.faultless("b01;");
        x.faulty("b02;", 0, 2);
        x.faulty("b000;", 0, 1);
        x.faulty("b00;b01;b00;", 8, 11);
        x.text("b01;o00;").play().is(2);
        x.log(1, 1).is(1);
        x.log(0, 1).is(0);
    }

    private static void numberOfSectionOrIsolator() {
        Run x = Run.row("the number of the section or isolator", 3);
        String ofSections = "btfneu";
        for (int i = 0; i < ofSections.length(); i++) {
            x.faulty(ofSections.charAt(i) + "3;", 0, 2);
        }
        x.faulty("o2;", 0, 2);
        x.faulty("c2;", 0, 2);
        x.faultless("b2;");
        x.faulty("c1;", 0, 41);
    }

    private static void wiresAsTheyAreNow() {
        Run x = Run.row("for the wires as they are now", 2);
        x.faultless("b1;");
        x.step(0, 1);
        x.fault(0).is(0);
        x.fault(1).is(11);
        x.step(1, 1);
        x.fault(0).is(NOT_FOUND);
        x.pool(0);
        x.fault(1).is(12);
        x.undo();
        x.fault(1).is(NOT_FOUND);
    }

    private static void positionFromZero() {
        Run x = Run.row("the position, from 0, of the first character of the step", 2);
        x.faulty("c0;", 0, 41);
        x.faulty("b1;c0;", 3, 41);
        x.faulty("b01;c00;", 4, 41);
        x.faulty("b1;b00;c0", 7, 1);
        x.faulty("b1;t1;b1;t1;b1;t1;b1;t1;b1;t1;b1;t1;b1;t1;b1;t1;b1;t1;b1;c0;", 57, 41);
        x.faulty("b1;t1;b1;t1;b1;t1;b1;t1;b1;t1;b1;t1;b1;t1;b1;t1;b01;t01;b1;x", 59, 1);
    }

    private static void firstStepThatIsNotPossible() {
        Run x = Run.row("of the first step that is not possible", 2);
        x.faulty("c0;b9;x", 0, 41);
        x.faulty("b9;c0;x", 0, 2);
        x.faulty("x;c0;b9;", 0, 1);
        x.faulty("b1;u0;x", 3, 81);
        x.faulty("b1;t9;u0;", 3, 2);
    }

    private static void reasonOneForForm() {
        Run x = Run.row("its reason is 1 if it is not of this form, its \";\" included", 2);
        x.faulty("b", 0, 1);
        x.faulty("b1", 0, 1);
        x.faulty("b01", 0, 1);
        x.faulty("b9", 0, 1);
        x.faulty("c0", 0, 1);
        x.faulty("b1;o0", 3, 1);
        x.faulty(" b1;", 0, 1);
        x.faulty("b1; ", 3, 1);
        x.faulty("1;", 0, 1);
        x.faulty("B1;", 0, 1);
        x.text("b1").fault(1).is(1);
        x.type(';').is(3);
        x.fault(1).is(NOT_FOUND);
    }

    private static void reasonTwoForNoSuchPlace() {
        Run x = new Run("2 if there is no such section or isolator");
        x.faulty("b0;", 0, 2);
        x.faulty("o0;", 0, 2);
        x.section(1, 1);
        x.faultless("b0;");
        x.faulty("b1;", 0, 2);
        x.faulty("t1;", 0, 2);
        x.faulty("c0;", 0, 2);
        x.faulty("b0;u1;", 3, 2);
    }

    private static void otherwiseReasonOfRefusal() {
        Run x = Run.row("otherwise that of its refusal", 2);
        x.faulty("t1;", 0, 21);
        x.faulty("o0;", 0, 32);
        x.faulty("c0;", 0, 41);
        x.faulty("f0;", 0, 52);
        x.faulty("f1;", 0, 51);
        x.faulty("n0;", 0, 61);
        x.faulty("e1;", 0, 72);
        x.faulty("u1;", 0, 81);
        x.pool(0);
        x.faulty("b1;", 0, 12);
    }

    private static void whenThoseAheadAreMade() {
        Run x = Run.row("when those ahead of it are made", 2);
        x.faulty("b1;b1;", 3, 11);
        x.faulty("b1;o0;o0;", 6, 31);
        x.faulty("b1;o0;t1;", 6, 22);
        x.faulty("b1;o0;e1;c0;", 9, 42);
        x.faulty("b1;b0;f0;e0;n0;", 12, 62);
        x.faultless("b1;o0;e1;u1;c0;t1;");
        x.count(9).is(0);
        x.pool(1);
        x.faulty("b1;b0;", 3, 12);
        x.faultless("b1;t1;b0;");
    }
}

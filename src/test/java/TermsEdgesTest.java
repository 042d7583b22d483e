/** Each sentence of the document's "Terms" that names an edge, with a test of its own. */
public final class TermsEdgesTest extends Houses {
    private static final Due DUE = new Due("TermsEdgesTest");

    public static void main(String[] args) {
        store();
        workers();
        questions();
        writers();
        reasonings();
        streams();
        cancelled();
        ends();
        kept();
        DUE.close();
    }

    private static void store() {
        DUE.sentence("used for at most 512 calls after it has been made", TermsEdgesTest::the512thCall);
        DUE.sentence("VERSIONS, numbered from 0, each 16 CELLS", TermsEdgesTest::versionsAndCells);
        DUE.sentence("sums wrap: a commit", TermsEdgesTest::commitWraps);
        DUE.sentence("sums wrap: a draft", TermsEdgesTest::draftWraps);
        DUE.sentence("sums wrap: a question's answer", TermsEdgesTest::questionWraps);
        DUE.sentence("sums wrap: a stream's answer", TermsEdgesTest::streamWraps);
        DUE.sentence("Version 0 has the cells that were put before anything began", TermsEdgesTest::versionZero);
        DUE.sentence("the LATEST one is that which was committed last", TermsEdgesTest::latest);
    }

    private static void workers() {
        DUE.sentence("WORKERS are numbered from 0 as they begin", TermsEdgesTest::numberedFromZero);
        DUE.sentence("at most 30", TermsEdgesTest::atMostThirty);
        DUE.sentence("STEPS, one in a TURN that it gets, until it has ENDED", TermsEdgesTest::oneStepInATurn);
        DUE.sentence("A turn in which a worker can't go on does nothing", TermsEdgesTest::waitingDoesNothing);
        DUE.sentence("FAILS AT 0: it never does", TermsEdgesTest::neverFails);
        DUE.sentence("FAILS AT 1", TermsEdgesTest::failsInPlaceOfTheFirst);
        DUE.sentence("FAILS in the place of its k-th step: the last one", TermsEdgesTest::failsInPlaceOfTheLast);
        DUE.sentence("if it comes to that: it has no k-th step", TermsEdgesTest::hasNoSuchStep);
        DUE.sentence("if it comes to that: it waits before it", TermsEdgesTest::waitsBeforeItFails);
    }

    private static void questions() {
        DUE.sentence("it PINS the version that is the latest when it begins", TermsEdgesTest::questionPins);
        DUE.sentence("reads cell (first + k - 1) modulo 16", TermsEdgesTest::questionReadsAround);
        DUE.sentence("the ANSWER, 0 at first", TermsEdgesTest::answerIsZeroAtFirst);
        DUE.sentence("With its last step it is DONE", TermsEdgesTest::questionIsDone);
    }

    private static void writers() {
        DUE.sentence("adds BY to cell (first + k - 1) modulo 16", TermsEdgesTest::writerWritesAround);
        DUE.sentence("of its own DRAFT (0s at first)", TermsEdgesTest::draftsAreOwn);
        DUE.sentence("it COMMITS in a turn more, and is DONE", TermsEdgesTest::writerCommitsInATurnMore);
        DUE.sentence("the latest one with its draft added", TermsEdgesTest::writerAddsToTheLatest);
        DUE.sentence("It waits with that until all lesser ones have ended", TermsEdgesTest::writerWaits);
        DUE.sentence("with lesser numbers: of a writer", TermsEdgesTest::writerWaitsForLesserAlone);
        DUE.sentence("writers and reasonings: of a writer", TermsEdgesTest::writerWaitsForNoReader);
        DUE.sentence("have ended: FAILED and CANCELLED too", TermsEdgesTest::writerGoesOnBehindAnyEnd);
    }

    private static void reasonings() {
        DUE.sentence("It waits before the first one", TermsEdgesTest::reasoningWaits);
        DUE.sentence("with lesser numbers: of a reasoning", TermsEdgesTest::reasoningWaitsForLesserAlone);
        DUE.sentence("writers and reasonings: of a reasoning", TermsEdgesTest::reasoningWaitsForNoReader);
        DUE.sentence("have ended: of a reasoning, behind any end", TermsEdgesTest::reasoningGoesOnBehindAnyEnd);
        DUE.sentence("with the first it takes the cells of the latest version", TermsEdgesTest::reasoningTakesTheLatest);
        DUE.sentence("and pins that one", TermsEdgesTest::reasoningPins);
        DUE.sentence("the greater one of itself and the cell before it", TermsEdgesTest::reasoningTakesTheGreater);
        DUE.sentence("cell 15 is before cell 0", TermsEdgesTest::reasoningGoesAround);
        DUE.sentence("all at the same time", TermsEdgesTest::reasoningAtTheSameTime);
        DUE.sentence("When it has done all, it commits in a turn more", TermsEdgesTest::reasoningCommitsInATurnMore);
    }

    private static void streams() {
        DUE.sentence("the version behind the one that it got last", TermsEdgesTest::streamGetsOneByOne);
        DUE.sentence("the first one that behind the latest when it began", TermsEdgesTest::streamBeginsBehindTheLatest);
        DUE.sentence("31 times the answer and the sum of that version's cells", TermsEdgesTest::streamSumsAllCells);
        DUE.sentence("It waits when there is none", TermsEdgesTest::streamWaits);
        DUE.sentence("it is never DONE", TermsEdgesTest::streamIsNeverDone);
    }

    private static void cancelled() {
        DUE.sentence("CANCELLED in its next turn", TermsEdgesTest::cancelledInTheNextTurn);
        DUE.sentence("in the place of all else: a step", TermsEdgesTest::cancelledInPlaceOfAStep);
        DUE.sentence("in the place of all else: its last step", TermsEdgesTest::cancelledInPlaceOfTheLastStep);
        DUE.sentence("in the place of all else: a failure", TermsEdgesTest::cancelledInPlaceOfAFailure);
        DUE.sentence("in the place of all else: a commit", TermsEdgesTest::cancelledInPlaceOfACommit);
        DUE.sentence("also when it would wait", TermsEdgesTest::cancelledWhenItWouldWait);
    }

    private static void ends() {
        DUE.sentence("What has ended pins nothing: questions", TermsEdgesTest::endedQuestionsPinNothing);
        DUE.sentence("What has ended pins nothing: reasonings", TermsEdgesTest::endedReasoningsPinNothing);
        DUE.sentence("drafts of what FAILED or was CANCELLED are gone", TermsEdgesTest::draftsAreGone);
        DUE.sentence("cells of what FAILED or was CANCELLED are gone", TermsEdgesTest::cellsAreGone);
    }

    private static void kept() {
        DUE.sentence("KEPT are the latest version", TermsEdgesTest::latestIsKept);
        DUE.sentence("KEPT are those that are pinned", TermsEdgesTest::pinnedAreKept);
        DUE.sentence("KEPT are those that some stream did not get yet", TermsEdgesTest::notYetGotAreKept);
        DUE.sentence("some stream: the one that got least", TermsEdgesTest::slowestStreamKeeps);
        DUE.sentence("some stream: none that has ended", TermsEdgesTest::endedStreamKeepsNothing);
        DUE.sentence("all others are gone for good", TermsEdgesTest::goneForGood);
    }

    private static void the512thCall() {
        HouseWorkers x = new HouseWorkers();
        x.stream();
        for (int call = 2; call <= 511; call++) {
            DUE.is("call " + call, WAITS, x.turn(0));
        }
        DUE.is("call 512", 510, x.count(WAITED));
    }

    private static void versionsAndCells() {
        HouseWorkers x = squares();
        DUE.is("one at first", 1, x.count(VERSIONS));
        DUE.is("the first cell", 0, x.cell(0, 0));
        DUE.is("the last cell", 225, x.cell(0, 15));
        DUE.is("no version below", BAD, x.cell(-1, 0));
        DUE.is("no version 1 yet", BAD, x.cell(1, 0));
        for (int version = 1; version <= 3; version++) {
            int number = write(x, 15, 1);
            DUE.is("the next number", version, x.told(number, VERSION));
            DUE.is("its first cell", 0, x.cell(version, 0));
            DUE.is("its last cell", 225 + version, x.cell(version, 15));
            DUE.is("no cell 16", BAD, x.cell(version, 16));
            DUE.is("no cell below", BAD, x.cell(version, -1));
            DUE.is("none behind it", BAD, x.cell(version + 1, 0));
        }
    }

    private static void commitWraps() {
        HouseWorkers x = new HouseWorkers();
        x.put(0, MAX);
        x.put(1, MIN);
        x.writer(1, 0, 0, 1);
        x.writer(1, 0, 1, -1);
        x.run(1000);
        DUE.is("MAX and 1", MIN, x.cell(2, 0));
        DUE.is("MIN and -1", MAX, x.cell(2, 1));
    }

    private static void draftWraps() {
        HouseWorkers x = new HouseWorkers();
        x.put(0, 5);
        x.writer(17, 0, 0, MIN);
        x.run(1000);
        DUE.is("MIN twice", 5, x.cell(1, 0));
        DUE.is("MIN once", MIN, x.cell(1, 1));
    }

    private static void questionWraps() {
        HouseWorkers x = new HouseWorkers();
        x.put(0, MAX);
        x.put(1, 31);
        x.question(2, 0, 0);
        x.turn(0);
        DUE.is("the first", MAX, x.told(0, ANSWER));
        x.turn(0);
        DUE.is("31 times MAX and 31", MIN, x.told(0, ANSWER));
    }

    private static void streamWraps() {
        HouseWorkers x = new HouseWorkers();
        x.put(0, MAX);
        x.stream();
        write(x, 1, 1);
        write(x, 1, 6);
        x.turn(0);
        DUE.is("MAX and 1", MIN, x.told(0, ANSWER));
        x.turn(0);
        DUE.is("31 times MIN, and MAX and 7", 6, x.told(0, ANSWER));
    }

    private static void versionZero() {
        HouseWorkers x = new HouseWorkers();
        for (int cell = 0; cell < 16; cell++) {
            DUE.is("nothing was put", 0, x.cell(0, cell));
        }
        x.put(4, 1);
        x.put(4, 2);
        x.question(1, 0, 4);
        x.put(4, 3);
        DUE.is("what was put last, before", 2, x.cell(0, 4));
        x.turn(0);
        DUE.is("so it is read", 2, x.told(0, ANSWER));
    }

    private static void latest() {
        HouseWorkers x = squares();
        DUE.is("nothing was committed", 0, x.told(x.stream(), VERSION));
        write(x, 0, 1);
        write(x, 0, 10);
        DUE.is("two were", 2, x.told(x.question(1, 0, 0), VERSION));
        x.turn(3);
        DUE.is("the second", 11, x.told(3, ANSWER));
        x.turn(x.writer(1, 1, 0, 100));
        cancelNow(x, x.writer(1, 0, 0, 100));
        DUE.is("a failed and a cancelled one committed none", 2, x.told(x.stream(), VERSION));
    }

    private static void numberedFromZero() {
        HouseWorkers x = new HouseWorkers();
        DUE.is("question", 0, x.question(1, 0, 0));
        DUE.is("refused", BAD, x.question(0, 0, 0));
        DUE.is("writer", 1, x.writer(1, 0, 0, 0));
        DUE.is("refused", BAD, x.writer(0, 0, 0, 0));
        DUE.is("reason", 2, x.reason(1, 0));
        DUE.is("refused", BAD, x.reason(0, 0));
        DUE.is("stream", 3, x.stream());
        x.turn(0);
        DUE.is("an end frees no number", 4, x.stream());
    }

    private static void atMostThirty() {
        HouseWorkers x = new HouseWorkers();
        for (int number = 0; number < 30; number++) {
            DUE.is("begins", number, x.question(1, 0, 0));
            DUE.is("is through", DONE, x.turn(number));
        }
        DUE.is("none goes on", 0, x.count(GO_ON));
        DUE.is("but thirty began", FULL, x.question(1, 0, 0));
    }

    private static void oneStepInATurn() {
        HouseWorkers x = squares();
        oneOfEachKind(x);
        x.turn(0);
        x.turn(1);
        x.turn(1);
        DUE.is("the question's", 1, x.told(0, STEPS));
        DUE.is("the writer's", 2, x.told(1, STEPS));
        DUE.is("the reasoning's", 0, x.told(2, STEPS));
        DUE.is("the stream's", 0, x.told(3, STEPS));
        x.question(1, 0, 0);
        x.question(1, 1, 0);
        x.question(1, 0, 0);
        x.turn(4);
        x.turn(5);
        cancelNow(x, 6);
        String before = all(x, 7);
        for (int work = 4; work <= 6; work++) {
            DUE.is("a turn of what has ended", 0, x.turn(work));
        }
        DUE.holds("changes nothing", before.equals(all(x, 7)));
        DUE.is("and is no waiting", 0, x.count(WAITED));
    }

    private static void waitingDoesNothing() {
        HouseWorkers x = squares();
        x.writer(2, 0, 0, 1);
        x.writer(1, 0, 1, 1);
        x.reason(1, 0);
        x.stream();
        x.turn(1);
        String before = all(x, 4);
        DUE.is("the writer waits", WAITS, x.turn(1));
        DUE.is("the reasoning waits", WAITS, x.turn(2));
        DUE.is("the stream waits", WAITS, x.turn(3));
        DUE.holds("nothing is changed", before.equals(all(x, 4)));
        DUE.is("three waited", 3, x.count(WAITED));
    }

    private static void neverFails() {
        HouseWorkers x = squares();
        x.question(20, 0, 0);
        x.writer(20, 0, 0, 1);
        x.reason(20, 0);
        DUE.is("all turns", 20 + 21 + 21, x.run(1000));
        for (int work = 0; work < 3; work++) {
            DUE.is("worker " + work, DONE, x.told(work, END));
        }
    }

    private static void failsInPlaceOfTheFirst() {
        HouseWorkers x = squares();
        x.question(3, 1, 5);
        x.writer(3, 1, 5, 1);
        x.reason(3, 1);
        for (int work = 0; work < 3; work++) {
            DUE.is("worker " + work, FAILED, x.turn(work));
            DUE.is("its steps", 0, x.told(work, STEPS));
            DUE.is("its answer", 0, x.told(work, ANSWER));
        }
        DUE.is("a reasoning without a round pinned nothing", 0, x.count(PINNED));
    }

    private static void failsInPlaceOfTheLast() {
        HouseWorkers x = squares();
        x.question(2, 2, 5);
        x.writer(2, 2, 5, 1);
        x.reason(2, 2);
        for (int work = 0; work < 3; work++) {
            DUE.is("worker " + work, GOES_ON, x.turn(work));
            DUE.is("fails", FAILED, x.turn(work));
            DUE.is("its steps", 1, x.told(work, STEPS));
        }
        DUE.is("only the first cell was read", 25, x.told(0, ANSWER));
        DUE.is("nothing was committed", 1, x.count(VERSIONS));
        HouseWorkers y = new HouseWorkers();
        y.question(20, 20, 0);
        DUE.is("the twentieth of twenty", 20, y.run(1000));
        DUE.is("failed", FAILED, y.told(0, END));
        DUE.is("nineteen steps", 19, y.told(0, STEPS));
    }

    private static void hasNoSuchStep() {
        for (int failsAt : new int[] {3, 30}) {
            HouseWorkers x = squares();
            x.question(2, failsAt, 5);
            x.writer(2, failsAt, 5, 1);
            x.reason(2, failsAt);
            DUE.is("all turns", 2 + 3 + 3, x.run(1000));
            for (int work = 0; work < 3; work++) {
                DUE.is("fails at " + failsAt + ": " + work, DONE, x.told(work, END));
            }
            DUE.is("a commit is no step", 3, x.count(VERSIONS));
        }
    }

    private static void waitsBeforeItFails() {
        HouseWorkers x = squares();
        x.writer(1, 0, 0, 1);
        x.reason(1, 1);
        DUE.is("it waits", WAITS, x.turn(1));
        DUE.is("and would again", 1, x.told(1, STILL));
        x.turn(0);
        x.turn(0);
        DUE.is("it comes to that", 0, x.told(1, STILL));
        DUE.is("and fails", FAILED, x.turn(1));
    }

    private static void questionPins() {
        HouseWorkers x = squares();
        x.question(1, 0, 2);
        write(x, 2, 100);
        x.question(1, 0, 2);
        write(x, 2, 1000);
        DUE.is("the early one's", 0, x.told(0, VERSION));
        DUE.is("the later one's", 1, x.told(2, VERSION));
        x.turn(0);
        x.turn(2);
        DUE.is("the early answer", 4, x.told(0, ANSWER));
        DUE.is("the later answer", 104, x.told(2, ANSWER));
    }

    private static void questionReadsAround() {
        HouseWorkers x = squares();
        x.question(2, 0, 15);
        x.turn(0);
        DUE.is("cell 15", 225, x.told(0, ANSWER));
        x.turn(0);
        DUE.is("cell 0", 225 * 31, x.told(0, ANSWER));
        HouseWorkers y = new HouseWorkers();
        y.put(2, 1);
        y.question(20, 0, 15);
        DUE.is("two short of it", 3, y.run(3));
        DUE.is("cells 15, 0 and 1", 0, y.told(0, ANSWER));
        y.turn(0);
        DUE.is("cell 2", 1, y.told(0, ANSWER));
        y.run(16);
        int to16 = 1;
        for (int i = 0; i < 16; i++) {
            to16 *= 31;
        }
        DUE.is("cell 2 again, with the last one", to16 + 1, y.told(0, ANSWER));
    }

    private static void answerIsZeroAtFirst() {
        HouseWorkers x = squares();
        x.question(2, 0, 3);
        DUE.is("before", 0, x.told(0, ANSWER));
        x.turn(0);
        DUE.is("31 times 0 and 9", 9, x.told(0, ANSWER));
        x.turn(0);
        DUE.is("31 times 9 and 16", 295, x.told(0, ANSWER));
    }

    private static void questionIsDone() {
        HouseWorkers x = squares();
        x.question(1, 0, 0);
        x.question(20, 0, 0);
        DUE.is("one step", DONE, x.turn(0));
        for (int k = 1; k < 20; k++) {
            DUE.is("step " + k, GOES_ON, x.turn(1));
        }
        DUE.is("the twentieth", DONE, x.turn(1));
        DUE.is("twenty steps", 20, x.told(1, STEPS));
    }

    private static void writerWritesAround() {
        HouseWorkers x = new HouseWorkers();
        x.writer(20, 0, 15, 7);
        x.run(1000);
        for (int cell = 0; cell < 16; cell++) {
            DUE.is("cell " + cell, cell <= 2 || cell == 15 ? 14 : 7, x.cell(1, cell));
        }
        HouseWorkers y = new HouseWorkers();
        y.writer(1, 0, 15, 7);
        y.run(1000);
        DUE.is("one step: its cell", 7, y.cell(1, 15));
        DUE.is("one step: the one behind", 0, y.cell(1, 0));
    }

    private static void draftsAreOwn() {
        HouseWorkers x = squares();
        x.writer(1, 0, 3, 100);
        x.writer(1, 0, 3, 1000);
        x.turn(0);
        x.turn(1);
        DUE.is("a draft is no version", 9, x.cell(0, 3));
        x.turn(0);
        DUE.is("the first alone", 109, x.cell(1, 3));
        DUE.is("no other cell", 16, x.cell(1, 4));
        x.turn(1);
        DUE.is("both", 1109, x.cell(2, 3));
    }

    private static void writerCommitsInATurnMore() {
        HouseWorkers x = squares();
        x.writer(1, 0, 0, 1);
        DUE.is("its only step", GOES_ON, x.turn(0));
        DUE.is("it did all", 1, x.told(0, STEPS));
        DUE.is("but has not ended", 0, x.told(0, END));
        DUE.is("one version", 1, x.count(VERSIONS));
        DUE.is("the turn more", DONE, x.turn(0));
        DUE.is("which is no step", 1, x.told(0, STEPS));
        DUE.is("two versions", 2, x.count(VERSIONS));
        DUE.is("no third", 0, x.turn(0));
        DUE.is("still two", 2, x.count(VERSIONS));
    }

    private static void writerAddsToTheLatest() {
        HouseWorkers x = squares();
        x.writer(1, 0, 1, 100);
        x.writer(1, 0, 2, 1000);
        x.turn(1);
        x.turn(0);
        x.turn(0);
        x.turn(1);
        DUE.is("what was committed since it began", 101, x.cell(2, 1));
        DUE.is("its own", 1004, x.cell(2, 2));
        DUE.is("the rest", 225, x.cell(2, 15));
    }

    private static void writerWaits() {
        HouseWorkers x = squares();
        x.writer(1, 0, 0, 1);
        x.reason(1, 0);
        x.writer(1, 0, 0, 1);
        DUE.is("not with its steps", GOES_ON, x.turn(2));
        DUE.is("for both", WAITS, x.turn(2));
        x.turn(0);
        x.turn(0);
        DUE.is("for the reasoning", WAITS, x.turn(2));
        x.turn(1);
        DUE.is("for its commit", WAITS, x.turn(2));
        x.turn(1);
        DUE.is("for none", DONE, x.turn(2));
    }

    private static void writerWaitsForLesserAlone() {
        HouseWorkers x = squares();
        x.writer(1, 0, 0, 1);
        x.writer(1, 0, 0, 1);
        x.reason(1, 0);
        x.turn(0);
        DUE.is("greater ones and itself go on", 3, x.count(GO_ON));
        DUE.is("it does not wait for them", DONE, x.turn(0));
    }

    private static void writerWaitsForNoReader() {
        HouseWorkers x = squares();
        x.question(1, 0, 0);
        x.stream();
        x.writer(1, 0, 0, 1);
        x.turn(2);
        DUE.is("question and stream go on", 3, x.count(GO_ON));
        DUE.is("it does not wait for them", DONE, x.turn(2));
    }

    private static void writerGoesOnBehindAnyEnd() {
        HouseWorkers x = squares();
        x.writer(1, 1, 0, 1);
        x.reason(1, 1);
        x.writer(1, 0, 0, 1);
        x.reason(1, 0);
        x.writer(1, 0, 0, 10);
        x.turn(4);
        x.turn(0);
        x.turn(1);
        DUE.is("two failed, two left", WAITS, x.turn(4));
        x.cancel(2);
        x.cancel(3);
        DUE.is("told to be cancelled is not ended", WAITS, x.turn(4));
        x.turn(2);
        x.turn(3);
        DUE.is("all have ended", DONE, x.turn(4));
        DUE.is("it is the first to commit", 1, x.told(4, VERSION));
        DUE.is("its own alone", 10, x.cell(1, 0));
    }

    private static void reasoningWaits() {
        HouseWorkers x = squares();
        x.writer(1, 0, 0, 1);
        x.reason(2, 0);
        x.reason(2, 0);
        DUE.is("for the writer", WAITS, x.turn(1));
        x.turn(0);
        DUE.is("for its commit", WAITS, x.turn(1));
        x.turn(0);
        DUE.is("for none", GOES_ON, x.turn(1));
        DUE.is("the next one for the reasoning", WAITS, x.turn(2));
        x.turn(1);
        DUE.is("and for its commit", WAITS, x.turn(2));
        DUE.is("which it does not wait with", DONE, x.turn(1));
        DUE.is("then for none", GOES_ON, x.turn(2));
    }

    private static void reasoningWaitsForLesserAlone() {
        HouseWorkers x = squares();
        x.reason(1, 0);
        x.reason(1, 0);
        x.writer(1, 0, 0, 1);
        DUE.is("greater ones go on", GOES_ON, x.turn(0));
        DUE.is("it does not wait for them", DONE, x.turn(0));
    }

    private static void reasoningWaitsForNoReader() {
        HouseWorkers x = squares();
        x.question(1, 0, 0);
        x.stream();
        x.reason(1, 0);
        DUE.is("it does not wait for them", GOES_ON, x.turn(2));
        DUE.is("nor with its commit", DONE, x.turn(2));
    }

    private static void reasoningGoesOnBehindAnyEnd() {
        HouseWorkers x = squares();
        x.writer(1, 1, 0, 1);
        x.reason(1, 0);
        x.reason(1, 0);
        x.turn(0);
        x.cancel(1);
        DUE.is("told to be cancelled is not ended", WAITS, x.turn(2));
        x.turn(1);
        DUE.is("all have ended", GOES_ON, x.turn(2));
    }

    private static void reasoningTakesTheLatest() {
        HouseWorkers x = squares();
        x.writer(1, 0, 0, 1000);
        x.reason(1, 0);
        x.run(1000);
        DUE.is("what was committed since it began", 1000, x.cell(2, 1));
        DUE.is("and itself", 1000, x.cell(2, 0));
        DUE.is("the rest spread by one", 196, x.cell(2, 14));
    }

    private static void reasoningPins() {
        HouseWorkers x = squares();
        x.reason(2, 0);
        DUE.is("not before", 0, x.count(PINNED));
        x.turn(0);
        DUE.is("with the first", 1, x.count(PINNED));
        x.turn(0);
        DUE.is("with the last", 1, x.count(PINNED));
        x.turn(0);
        DUE.is("not behind its commit", 0, x.count(PINNED));
        write(x, 0, 1);
        x.question(1, 0, 0);
        x.reason(1, 0);
        x.turn(3);
        DUE.is("the same as the question", 1, x.count(PINNED));
        x.turn(2);
        DUE.is("also without it", 1, x.count(PINNED));
    }

    private static void reasoningTakesTheGreater() {
        HouseWorkers x = new HouseWorkers();
        for (int cell = 0; cell < 16; cell++) {
            x.put(cell, cell == 3 ? MAX : MIN);
        }
        x.reason(1, 0);
        x.run(1000);
        for (int cell = 0; cell < 16; cell++) {
            DUE.is("cell " + cell, cell == 3 || cell == 4 ? MAX : MIN, x.cell(1, cell));
        }
    }

    private static void reasoningGoesAround() {
        HouseWorkers x = new HouseWorkers();
        x.put(15, 8);
        x.reason(1, 0);
        x.run(1000);
        for (int cell = 0; cell < 16; cell++) {
            DUE.is("cell " + cell, cell == 15 || cell == 0 ? 8 : 0, x.cell(1, cell));
        }
    }

    private static void reasoningAtTheSameTime() {
        HouseWorkers x = new HouseWorkers();
        x.put(0, 8);
        x.reason(14, 0);
        x.reason(1, 0);
        x.run(15);
        for (int cell = 0; cell < 16; cell++) {
            DUE.is("fourteen rounds: cell " + cell, cell == 15 ? 0 : 8, x.cell(1, cell));
        }
        x.run(1000);
        DUE.is("one more", 8, x.cell(2, 15));
    }

    private static void reasoningCommitsInATurnMore() {
        HouseWorkers x = squares();
        x.reason(1, 0);
        DUE.is("its only round", GOES_ON, x.turn(0));
        DUE.is("one version", 1, x.count(VERSIONS));
        DUE.is("the turn more", DONE, x.turn(0));
        DUE.is("which is no round", 1, x.told(0, STEPS));
        DUE.is("two versions", 2, x.count(VERSIONS));
        DUE.is("its own", 1, x.told(0, VERSION));
        DUE.is("no third", 0, x.turn(0));
    }

    private static void streamGetsOneByOne() {
        HouseWorkers x = new HouseWorkers();
        x.stream();
        write(x, 0, 1);
        write(x, 0, 2);
        write(x, 0, 3);
        for (int version = 1; version <= 3; version++) {
            DUE.is("gets", GOES_ON, x.turn(0));
            DUE.is("version", version, x.told(0, VERSION));
            DUE.is("steps", version, x.told(0, STEPS));
        }
        DUE.is("each once", (1 * 31 + 3) * 31 + 6, x.told(0, ANSWER));
        DUE.is("none twice", WAITS, x.turn(0));
    }

    private static void streamBeginsBehindTheLatest() {
        HouseWorkers x = new HouseWorkers();
        x.put(0, 5);
        x.stream();
        DUE.is("version 0 is not got", WAITS, x.turn(0));
        write(x, 0, 1);
        x.stream();
        DUE.is("nor version 1 by the next", WAITS, x.turn(2));
        write(x, 0, 1);
        x.turn(0);
        x.turn(2);
        DUE.is("the first one's first", 6, x.told(0, ANSWER));
        DUE.is("the next one's first", 7, x.told(2, ANSWER));
    }

    private static void streamSumsAllCells() {
        HouseWorkers x = squares();
        x.stream();
        DUE.is("the answer at first", 0, x.told(0, ANSWER));
        write(x, 0, 1000);
        write(x, 15, 10000);
        x.turn(0);
        DUE.is("once", 2240, x.told(0, ANSWER));
        x.turn(0);
        DUE.is("twice", 2240 * 31 + 12240, x.told(0, ANSWER));
    }

    private static void streamWaits() {
        HouseWorkers x = squares();
        x.stream();
        DUE.is("at first", WAITS, x.turn(0));
        write(x, 0, 1);
        DUE.is("not now", GOES_ON, x.turn(0));
        DUE.is("again", WAITS, x.turn(0));
        x.turn(x.writer(1, 1, 0, 1));
        DUE.is("a failure is no version", WAITS, x.turn(0));
    }

    private static void streamIsNeverDone() {
        HouseWorkers x = squares();
        x.stream();
        for (int i = 0; i < 29; i++) {
            write(x, 0, 1);
        }
        for (int version = 1; version <= 29; version++) {
            DUE.is("version " + version, GOES_ON, x.turn(0));
        }
        DUE.is("none more can come", WAITS, x.turn(0));
        DUE.is("it has not ended", 0, x.told(0, END));
        DUE.is("it goes on", 1, x.count(GO_ON));
    }

    private static void cancelledInTheNextTurn() {
        HouseWorkers x = squares();
        oneOfEachKind(x);
        for (int work = 0; work < 4; work++) {
            x.cancel(work);
            DUE.is("not yet", 0, x.told(work, END));
        }
        for (int work = 0; work < 4; work++) {
            DUE.is("now", CANCELLED, x.turn(work));
            DUE.is("it has ended", CANCELLED, x.told(work, END));
            DUE.is("and does nothing more", 0, x.turn(work));
        }
    }

    private static void cancelledInPlaceOfAStep() {
        HouseWorkers x = squares();
        oneOfEachKind(x);
        x.turn(0);
        x.turn(1);
        for (int work = 0; work < 2; work++) {
            cancelNow(x, work);
            DUE.is("the steps before", 1, x.told(work, STEPS));
        }
        x.turn(2);
        cancelNow(x, 2);
        DUE.is("the rounds before", 1, x.told(2, STEPS));
        write(x, 0, 1);
        cancelNow(x, 3);
        DUE.is("a stream gets nothing", 0, x.told(3, STEPS));
        DUE.is("nor sums it", 0, x.told(3, ANSWER));
        DUE.is("nor goes on to it", 0, x.told(3, VERSION));
    }

    private static void cancelledInPlaceOfTheLastStep() {
        HouseWorkers x = squares();
        x.question(1, 0, 5);
        x.cancel(0);
        DUE.is("not DONE", CANCELLED, x.turn(0));
        DUE.is("no answer", 0, x.told(0, ANSWER));
        DUE.is("no step", 0, x.told(0, STEPS));
    }

    private static void cancelledInPlaceOfAFailure() {
        HouseWorkers x = squares();
        x.question(1, 1, 0);
        x.writer(1, 1, 0, 1);
        x.reason(1, 1);
        for (int work = 0; work < 3; work++) {
            x.cancel(work);
            DUE.is("not FAILED", CANCELLED, x.turn(work));
        }
    }

    private static void cancelledInPlaceOfACommit() {
        HouseWorkers x = squares();
        x.writer(1, 0, 0, 1);
        x.reason(1, 0);
        x.turn(0);
        x.cancel(0);
        DUE.is("the writer", CANCELLED, x.turn(0));
        x.turn(1);
        x.cancel(1);
        DUE.is("the reasoning", CANCELLED, x.turn(1));
        DUE.is("nothing was committed", 1, x.count(VERSIONS));
        DUE.is("the writer's version", -1, x.told(0, VERSION));
        DUE.is("the reasoning's version", -1, x.told(1, VERSION));
    }

    private static void cancelledWhenItWouldWait() {
        HouseWorkers x = squares();
        x.writer(2, 0, 0, 1);
        x.writer(1, 0, 0, 1);
        x.reason(1, 0);
        x.stream();
        x.turn(1);
        for (int work = 1; work < 4; work++) {
            DUE.is("it waits", WAITS, x.turn(work));
            x.cancel(work);
            DUE.is("it waits no more", CANCELLED, x.turn(work));
        }
    }

    private static void endedQuestionsPinNothing() {
        HouseWorkers x = squares();
        x.question(1, 0, 0);
        write(x, 0, 1);
        x.question(1, 1, 0);
        write(x, 0, 1);
        x.question(1, 0, 0);
        write(x, 0, 1);
        DUE.is("three are pinned", 3, x.count(PINNED));
        x.turn(0);
        DUE.is("DONE", 2, x.count(PINNED));
        x.turn(2);
        DUE.is("FAILED", 1, x.count(PINNED));
        cancelNow(x, 4);
        DUE.is("CANCELLED", 0, x.count(PINNED));
        for (int version = 0; version < 3; version++) {
            DUE.is("gone", NO, x.cell(version, 0));
        }
    }

    private static void endedReasoningsPinNothing() {
        HouseWorkers x = squares();
        x.reason(2, 2);
        x.reason(2, 0);
        x.reason(2, 0);
        x.turn(0);
        DUE.is("it pins", 1, x.count(PINNED));
        x.turn(0);
        DUE.is("FAILED", 0, x.count(PINNED));
        x.turn(1);
        DUE.is("the next pins", 1, x.count(PINNED));
        cancelNow(x, 1);
        DUE.is("CANCELLED", 0, x.count(PINNED));
        x.turn(2);
        DUE.is("the last pins", 1, x.count(PINNED));
        x.run(1000);
        DUE.is("DONE", 0, x.count(PINNED));
        DUE.is("what it pinned is gone", NO, x.cell(0, 0));
    }

    private static void draftsAreGone() {
        HouseWorkers x = new HouseWorkers();
        x.writer(2, 2, 0, 100);
        x.writer(1, 0, 0, 1000);
        x.writer(1, 0, 0, 1);
        x.turn(0);
        x.turn(0);
        x.turn(1);
        cancelNow(x, 1);
        x.turn(2);
        x.turn(2);
        DUE.is("the third one's alone", 1, x.cell(1, 0));
        DUE.is("one commit", 2, x.count(VERSIONS));
    }

    private static void cellsAreGone() {
        HouseWorkers x = squares();
        x.reason(2, 2);
        x.reason(1, 0);
        x.reason(1, 0);
        x.turn(0);
        x.turn(0);
        x.turn(1);
        cancelNow(x, 1);
        x.turn(2);
        x.turn(2);
        DUE.is("one commit", 2, x.count(VERSIONS));
        DUE.is("cell 0: one round", 225, x.cell(1, 0));
        DUE.is("cell 1: one round", 1, x.cell(1, 1));
    }

    private static void latestIsKept() {
        HouseWorkers x = squares();
        DUE.is("at first", 1, x.count(KEPT));
        write(x, 0, 1);
        DUE.is("one still", 1, x.count(KEPT));
        DUE.is("that", 1, x.cell(1, 0));
        DUE.is("not the one before", NO, x.cell(0, 0));
        x.close();
        DUE.is("also in a closed house", 1, x.cell(1, 0));
    }

    private static void pinnedAreKept() {
        HouseWorkers x = squares();
        x.question(1, 0, 0);
        write(x, 0, 1);
        write(x, 0, 1);
        DUE.is("two are kept", 2, x.count(KEPT));
        DUE.is("the pinned one", 225, x.cell(0, 15));
        DUE.is("not the one between", NO, x.cell(1, 0));
        x.turn(0);
        DUE.is("one is kept", 1, x.count(KEPT));
        DUE.is("it is gone", NO, x.cell(0, 15));
    }

    private static void notYetGotAreKept() {
        HouseWorkers x = squares();
        x.stream();
        write(x, 0, 1);
        write(x, 0, 1);
        write(x, 0, 1);
        DUE.is("the one it began at is not", NO, x.cell(0, 0));
        DUE.is("the three behind it are", 3, x.count(KEPT));
        x.turn(0);
        DUE.is("what it got is not", NO, x.cell(1, 0));
        DUE.is("what it did not get is", 2, x.cell(2, 0));
        x.turn(0);
        x.turn(0);
        DUE.is("it got the latest", 3, x.cell(3, 0));
        DUE.is("which is kept", 1, x.count(KEPT));
    }

    private static void slowestStreamKeeps() {
        HouseWorkers x = squares();
        x.stream();
        x.stream();
        write(x, 0, 1);
        write(x, 0, 1);
        x.turn(0);
        x.turn(0);
        DUE.is("for the other", 1, x.cell(1, 0));
        x.turn(1);
        DUE.is("for none", NO, x.cell(1, 0));
    }

    private static void endedStreamKeepsNothing() {
        HouseWorkers x = squares();
        x.stream();
        write(x, 0, 1);
        write(x, 0, 1);
        x.cancel(0);
        DUE.is("told so, it has not ended", 2, x.count(KEPT));
        x.turn(0);
        DUE.is("it has ended", 1, x.count(KEPT));
        write(x, 0, 1);
        DUE.is("and keeps nothing later", 1, x.count(KEPT));
        DUE.is("so that is gone", NO, x.cell(2, 0));
    }

    private static void goneForGood() {
        HouseWorkers x = squares();
        write(x, 0, 1);
        x.stream();
        x.question(1, 0, 0);
        DUE.is("a new worker brings nothing back", NO, x.cell(0, 0));
        x.reason(1, 0);
        x.run(1000);
        DUE.is("nor a commit", NO, x.cell(0, 0));
        DUE.is("nor for version 1", NO, x.cell(1, 0));
        x.close();
        DUE.is("nor closing", NO, x.cell(0, 0));
        DUE.is("they are counted still", 3, x.count(VERSIONS));
    }
}

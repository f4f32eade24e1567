import java.math.BigInteger;
import java.util.Arrays;
import java.util.HashSet;
import java.util.Set;

/**
 * A test of its own for each sentence of the document, called by it. Where the sentence names an edge: the last input
 * inside it, the first one outside it on each side, and the smallest and the largest where an argument may be any.
 * What is due is worked out in BigInteger and cut to 64 bits at the end, so that no wrap-around of the class is
 * trusted here.
 */
public final class PostDesk2Sentences {
    private static final int LEAST = Integer.MIN_VALUE;
    private static final int MOST = Integer.MAX_VALUE;
    private static final long LONG_LEAST = Long.MIN_VALUE;
    private static final long LONG_MOST = Long.MAX_VALUE;

    // 256 and 65536 and what lies near them would be good ones if an argument were cut to a byte or a short.
    private static final int[] NO_CALLS = {
        LEAST, LEAST + 1, -65536, -256, -20, -19, -11, -10, -9, -1, 20, 21, 29, 30, 256, 266, 65536, MOST - 1, MOST
    };
    private static final int[] NO_KINDS = {
        LEAST, LEAST + 1, -65536, -256, -10, -9, -1, 10, 11, 19, 20, 256, 265, 65536, MOST - 1, MOST
    };
    private static final int[] NO_FAILURES = {
        LEAST, LEAST + 1, -256, -3, -2, -1, 4, 5, 256, 257, 65536, 65539, MOST - 1, MOST
    };
    private static final int[] NO_WHATS = {
        LEAST, LEAST + 1, LEAST + 7, -256, -8, -7, -1, 8, 9, 15, 16, 256, 263, 65536, 65543, MOST - 1, MOST
    };
    private static final long[] ANY_LONGS = {
        LONG_LEAST, LONG_LEAST + 1, LEAST - 1L, LEAST, -2, -1, 0, 1, 2, MOST, MOST + 1L, LONG_MOST - 1, LONG_MOST
    };

    private static final int FAULTS_TOLD_A_SENTENCE = 20;

    private static int wrong = 0;
    private static int wrongBefore = 0;
    private static int tests = 0;
    private static String sentence = "";

    private interface Test {
        void run();
    }

    /** A desk that is used for at most 512 calls, since what later calls answer is free. */
    private static final class Desk {
        private final PostDesk2 desk = new PostDesk2();
        private int calls = 0;

        private PostDesk2 used() {
            calls++;
            if (calls > 512) {
                throw new IllegalStateException("the test uses a desk for more than 512 calls");
            }
            return desk;
        }

        int collect(long v) {
            return used().collect(v);
        }

        int answer(int call, long v) {
            return used().answer(call, v);
        }

        int fails(int call, int kind) {
            return used().fails(call, kind);
        }

        int make(int kind) {
            return used().make(kind);
        }

        long call(int call, int number, long a) {
            return used().call(call, number, a);
        }

        long told(int what) {
            return used().told(what);
        }

        boolean drop(int number) {
            return used().drop(number);
        }

        int numbers(int kind) {
            return used().numbers(kind);
        }

        boolean isThere(int number) {
            return used().isThere(number);
        }

        long again(int call, int number, long a) {
            return used().again(call, number, a);
        }

        long log(int call, int number, long a) {
            return used().log(call, number, a);
        }
    }

    public static void main(String[] args) {
        whatItIs();
        things();
        calls();
        parts();
        aCall();
        theLog();
        secondDesk();
        promises1To5();
        promises6And7();
        promises8To10();
        promises11And12();
        leftBehindOtherActs();
        System.out.println(tests + " sentences, " + (wrong == 0 ? "all hold" : wrong + " answers are not as due"));
        if (wrong != 0) {
            System.exit(1);
        }
    }

    private static void whatItIs() {
        test("What it is: things of ten kinds by numbers that come once", PostDesk2Sentences::numbersComeOnce);
        test("What it is: calls that go to their part or are refused", PostDesk2Sentences::callsGoOrAreRefused);
        test("What it is: collected for the next call", PostDesk2Sentences::collectedForTheNextCall);
        test("What it is: failures of parts that are caught and told", PostDesk2Sentences::failuresAreCaughtAndTold);
        test("What it is: the same acts done again on a second desk", PostDesk2Sentences::sameActsOnASecondDesk);
        test("What it is: at most 512 calls: answered", PostDesk2Sentences::answeredUpTo512);
        test("What it is: at most 512 calls: refused", PostDesk2Sentences::refusedUpTo512);
        test("What it is: at most 512 calls: failed", PostDesk2Sentences::failedUpTo512);
        test("What it is: at most 512 calls: collect", PostDesk2Sentences::collectUpTo512);
        test("What it is: at most 512 calls: make", PostDesk2Sentences::makeUpTo512);
        test("What it is: at most 512 calls: again and log behind 511 acts", PostDesk2Sentences::secondDeskOf511Acts);
        test("What it is: at most 512 calls: again and log alone", PostDesk2Sentences::askedUpTo512);
    }

    private static void things() {
        test("THINGS: a KIND 0 .. 9", PostDesk2Sentences::kindsAre0To9);
        test("THINGS: 1000 times the kind, and how many were made with it", PostDesk2Sentences::numbersCountByKind);
        test("THINGS: (1 .. 99)", PostDesk2Sentences::numbersAre1To99);
        test("THINGS: a number that was dropped never comes again", PostDesk2Sentences::droppedNeverComesAgain);
    }

    private static void calls() {
        test("CALLS: 0 .. 19", PostDesk2Sentences::callsAre0To19);
        test("CALLS: the kind is the call modulo 10", PostDesk2Sentences::callsAreForTheirKind);
        test("CALLS: those from 10 on want something collected", PostDesk2Sentences::callsFrom10OnWant);
    }

    private static void parts() {
        test("PARTS: each call has one", PostDesk2Sentences::eachCallHasItsPart);
        test("PARTS: it ANSWERS V, plus the argument, plus the DIGEST", PostDesk2Sentences::partsAnswerTheSum);
        test("PARTS: V is 0 at first", PostDesk2Sentences::valueIsZeroAtFirst);
        test("PARTS: V plus the argument wraps", PostDesk2Sentences::valueAndArgumentWrap);
        test("PARTS: plus the digest wraps", PostDesk2Sentences::digestIsAddedAndWraps);
        test("PARTS: the digest is 0 without anything", PostDesk2Sentences::digestIsZeroWithoutAnything);
        test("PARTS: the digest for each number, in order", PostDesk2Sentences::digestGoesByOrder);
        test("PARTS: the digest itself wraps", PostDesk2Sentences::digestItselfWraps);
        test("PARTS: it fails, by kind 1, 2, 3", PostDesk2Sentences::partsFailByKind);
    }

    private static void aCall() {
        test("A CALL: OUTSIDE before all else", PostDesk2Sentences::outsideGoesFirst);
        test("A CALL: UNKNOWN, no such thing", PostDesk2Sentences::unknownWithoutSuchThing);
        test("A CALL: UNKNOWN, no longer there", PostDesk2Sentences::unknownWhenDropped);
        test("A CALL: UNKNOWN, of another kind", PostDesk2Sentences::unknownOfAnotherKind);
        test("A CALL: UNKNOWN before EMPTY", PostDesk2Sentences::unknownBeforeEmpty);
        test("A CALL: EMPTY, it wants something and nothing is collected",
            PostDesk2Sentences::emptyWithNothingCollected);
        test("A CALL: refused, it does not go to its part", PostDesk2Sentences::refusedDoesNotGoToItsPart);
        test("A CALL: refused, what is collected stays", PostDesk2Sentences::refusedLeavesWhatIsCollected);
        test("A CALL: else it goes to its part: its answer", PostDesk2Sentences::elseItGoesToItsPart);
        test("A CALL: answered, what was collected is gone", PostDesk2Sentences::answeredTakesWhatWasCollected);
        test("A CALL: FAILED, it is still there", PostDesk2Sentences::failedLeavesWhatIsCollected);
        test("A CALL: what OUTSIDE leaves behind", PostDesk2Sentences::leftBehindOutside);
        test("A CALL: what UNKNOWN leaves behind", PostDesk2Sentences::leftBehindUnknown);
        test("A CALL: what EMPTY leaves behind", PostDesk2Sentences::leftBehindEmpty);
        test("A CALL: what an answer leaves behind", PostDesk2Sentences::leftBehindAnAnswer);
        test("A CALL: what FAILED leaves behind", PostDesk2Sentences::leftBehindFailed);
    }

    private static void theLog() {
        test("THE LOG: it has each call() that was not OUTSIDE", PostDesk2Sentences::logHasEachCall);
        test("THE LOG: at first 7", PostDesk2Sentences::logIsSevenAtFirst);
        test("THE LOG: 1000003 times L, plus 32 times the number, plus the call", PostDesk2Sentences::logOfEachCall);
        test("THE LOG: all wraps: L", PostDesk2Sentences::logWraps);
        test("THE LOG: all wraps: 32 times the number", PostDesk2Sentences::logOfAnyNumber);
        test("THE LOG: answered, plus the answer", PostDesk2Sentences::logOfAnswers);
        test("THE LOG: answered with what is a code elsewhere", PostDesk2Sentences::logOfAnswersThatAreCodes);
        test("THE LOG: refused, less 1", PostDesk2Sentences::logOfRefusals);
        test("THE LOG: failed, less 1 and less the kind", PostDesk2Sentences::logOfFailures);
        test("THE LOG: OUTSIDE is not in it", PostDesk2Sentences::logHasNoOutside);
        test("THE LOG: nothing but call() is in it", PostDesk2Sentences::logHasCallsAlone);
    }

    private static void secondDesk() {
        test("A SECOND DESK: things made", PostDesk2Sentences::secondDeskHasThingsMade);
        test("A SECOND DESK: things dropped", PostDesk2Sentences::secondDeskHasThingsDropped);
        test("A SECOND DESK: numbers collected", PostDesk2Sentences::secondDeskHasNumbersCollected);
        test("A SECOND DESK: answers set", PostDesk2Sentences::secondDeskHasAnswersSet);
        test("A SECOND DESK: failures set", PostDesk2Sentences::secondDeskHasFailuresSet);
        test("A SECOND DESK: calls", PostDesk2Sentences::secondDeskHasCalls);
        test("A SECOND DESK: in their order", PostDesk2Sentences::secondDeskKeepsTheOrder);
    }

    private static void promises1To5() {
        test("Promise 1: no things", PostDesk2Sentences::newDeskHasNoThings);
        test("Promise 1: nothing collected", PostDesk2Sentences::newDeskHasNothingCollected);
        test("Promise 1: all parts answer 0 and what comes to that", PostDesk2Sentences::newPartsAnswerZero);
        test("Promise 2: how many there are", PostDesk2Sentences::collectTellsHowMany);
        test("Promise 2: ROOM, 40 are", PostDesk2Sentences::collectHasRoomFor40);
        test("Promise 2: ROOM changes nothing", PostDesk2Sentences::collectWithoutRoomChangesNothing);
        test("Promise 3: V of a call's part is v", PostDesk2Sentences::answerSetsAnyValue);
        test("Promise 3: and it fails no more", PostDesk2Sentences::answerEndsFailing);
        test("Promise 3: NONE, no such call", PostDesk2Sentences::answerOfNoCall);
        test("Promise 4: kind 1 .. 3, from now on", PostDesk2Sentences::failsFromNowOn);
        test("Promise 4: or no more (0)", PostDesk2Sentences::failsNoMore);
        test("Promise 4: NONE, no such call", PostDesk2Sentences::failsOfNoCall);
        test("Promise 4: NONE, no such kind", PostDesk2Sentences::failsOfNoKind);
        test("Promise 5: a thing more, its number", PostDesk2Sentences::makeTellsTheNumber);
        test("Promise 5: NONE, no such kind", PostDesk2Sentences::makeOfNoKind);
        test("Promise 5: ROOM, 99 of it were made", PostDesk2Sentences::makeHasRoomFor99);
        test("Promise 5: ROOM of one kind alone", PostDesk2Sentences::makeHasRoomByKind);
    }

    private static void promises6And7() {
        test("Promise 6: any argument", PostDesk2Sentences::callTakesAnyArgument);
        test("Promise 6: any number", PostDesk2Sentences::callTakesAnyNumber);
        test("Promise 7: how many calls were answered", PostDesk2Sentences::toldAnswered);
        test("Promise 7: refused", PostDesk2Sentences::toldRefused);
        test("Promise 7: those that were OUTSIDE are not counted", PostDesk2Sentences::toldCountsNoOutside);
        test("Promise 7: failed", PostDesk2Sentences::toldFailed);
        test("Promise 7: the latest failure's kind, number and call", PostDesk2Sentences::toldLatestFailure);
        test("Promise 7: the latest failure stays the latest", PostDesk2Sentences::toldLatestFailureStays);
        test("Promise 7: 0 without one", PostDesk2Sentences::toldZeroWithoutFailure);
        test("Promise 7: how many numbers are collected", PostDesk2Sentences::toldCollected);
        test("Promise 7: 0 for another what", PostDesk2Sentences::toldZeroForAnotherWhat);
        test("Promise 7: it changes nothing", PostDesk2Sentences::toldChangesNothing);
    }

    private static void promises8To10() {
        test("Promise 8: a thing is there no more", PostDesk2Sentences::dropTakesOneThing);
        test("Promise 8: whether it was: once", PostDesk2Sentences::dropIsTrueOnce);
        test("Promise 8: whether it was: any number", PostDesk2Sentences::dropOfAnyNumber);
        test("Promise 9: how many things of a kind are there", PostDesk2Sentences::numbersFrom0To99);
        test("Promise 9: NONE, no such kind", PostDesk2Sentences::numbersOfNoKind);
        test("Promise 10: whether a thing is there: first and last", PostDesk2Sentences::isThereFirstAndLast);
        test("Promise 10: whether a thing is there: any number", PostDesk2Sentences::isThereOfAnyNumber);
        test("Promise 10: it changes nothing", PostDesk2Sentences::isThereChangesNothing);
    }

    private static void promises11And12() {
        test("Promise 11: what a CALL would be told", PostDesk2Sentences::againTellsAsCall);
        test("Promise 11: any argument and number", PostDesk2Sentences::againOfAny);
        test("Promise 11: nothing changes here", PostDesk2Sentences::againChangesNothing);
        test("Promise 12: L behind that CALL", PostDesk2Sentences::logTellsAsCall);
        test("Promise 12: any argument and number", PostDesk2Sentences::logOfAny);
        test("Promise 12: nothing changes here", PostDesk2Sentences::logChangesNothing);
    }

    private static void leftBehindOtherActs() {
        test("Promise 2: what collect leaves behind", PostDesk2Sentences::leftBehindCollect);
        test("Promise 3: what answer leaves behind", PostDesk2Sentences::leftBehindAnswer);
        test("Promise 4: what fails leaves behind", PostDesk2Sentences::leftBehindFails);
        test("Promise 5: what make leaves behind", PostDesk2Sentences::leftBehindMake);
        test("Promise 8: what drop leaves behind", PostDesk2Sentences::leftBehindDrop);
        test("Promises 2 to 5 and 8: what a refused act leaves behind", PostDesk2Sentences::leftBehindRefusedActs);
    }

    // What the tests are made of.

    private static void test(String name, Test test) {
        sentence = name;
        wrongBefore = wrong;
        tests++;
        try {
            test.run();
        } catch (RuntimeException e) {
            fault(e.toString());
        }
    }

    /** Of one sentence the first faults alone are told: some tests hold thousands of answers against it. */
    private static void fault(String what) {
        wrong++;
        if (wrong - wrongBefore <= FAULTS_TOLD_A_SENTENCE) {
            System.out.println(sentence + ": " + what);
        }
    }

    private static void due(String what, long got, long want) {
        if (got != want) {
            fault(what + " answered " + got + ", due is " + want);
        }
    }

    private static void due(String what, boolean got, boolean want) {
        due(what, got ? 1 : 0, want ? 1 : 0);
    }

    private static BigInteger big(long x) {
        return BigInteger.valueOf(x);
    }

    private static long answerOf(long v, long a, long... collected) {
        BigInteger digest = BigInteger.ZERO;
        for (long one : collected) {
            digest = digest.multiply(big(31)).add(big(one));
        }
        return big(v).add(big(a)).add(digest).longValue();
    }

    private static BigInteger entry(long logged, int call, int number) {
        BigInteger sum = big(logged).multiply(big(1000003)).add(big(number).multiply(big(32))).add(big(call));
        return sum.multiply(big(17));
    }

    private static long loggedAnswer(long logged, int call, int number, long answer) {
        return entry(logged, call, number).add(big(answer)).longValue();
    }

    private static long loggedRefusal(long logged, int call, int number) {
        return entry(logged, call, number).subtract(big(1)).longValue();
    }

    private static long loggedFailure(long logged, int call, int number, int kind) {
        return entry(logged, call, number).subtract(big(1)).subtract(big(kind)).longValue();
    }

    /** The number of the first thing of a call's kind. */
    private static int firstFor(int call) {
        return call % 10 * 1000 + 1;
    }

    private static Desk deskWithOneOfEach() {
        Desk desk = new Desk();
        for (int kind = 0; kind < 10; kind++) {
            desk.make(kind);
        }
        return desk;
    }

    private static Desk deskWith99(int kind) {
        Desk desk = new Desk();
        for (int i = 0; i < 99; i++) {
            desk.make(kind);
        }
        return desk;
    }

    /**
     * A desk on which nothing is as it was at first: three things of each kind made and the second dropped, a V of its
     * own for each part, parts 3, 14 and 5 failing by 1, 2 and 3, a call of each outcome, and two numbers collected.
     */
    private static Desk busyDesk() {
        Desk desk = new Desk();
        for (int kind = 0; kind < 10; kind++) {
            desk.make(kind);
            desk.make(kind);
            desk.make(kind);
            desk.drop(kind * 1000 + 2);
        }
        for (int call = 0; call < 20; call++) {
            desk.answer(call, 100 * call + 1);
        }
        desk.fails(3, 1);
        desk.fails(14, 2);
        desk.fails(5, 3);
        desk.call(0, 1, 5);
        desk.call(1, 2001, 5);
        desk.call(10, 1, 5);
        desk.collect(11);
        desk.collect(-12);
        desk.call(14, 4003, 6);
        return desk;
    }

    private static final long BUSY_DIGEST = 31 * 11 - 12;

    private static final long BUSY_LOG = loggedFailure(loggedRefusal(loggedRefusal(loggedAnswer(7,
        0, 1, 6), 1, 2001), 10, 1), 14, 4003, 2);

    /** All that is told of two desks, and all that they answer from here on, must be the same. */
    private static void dueSame(String what, Desk got, Desk want) {
        dueSameTold(what, got, want);
        for (int kind = -1; kind <= 10; kind++) {
            due(what + ", then numbers(" + kind + ")", got.numbers(kind), want.numbers(kind));
        }
        for (int kind = 0; kind < 10; kind++) {
            for (int count = 0; count <= 4; count++) {
                int number = kind * 1000 + count;
                due(what + ", then isThere(" + number + ")", got.isThere(number), want.isThere(number));
            }
        }
        for (int call = 0; call < 20; call++) {
            due(what + ", then collect", got.collect(call), want.collect(call));
            due(what + ", then call(" + call + ", ..)", got.call(call, firstFor(call), call),
                want.call(call, firstFor(call), call));
        }
        for (int kind = 0; kind < 10; kind++) {
            due(what + ", then make(" + kind + ")", got.make(kind), want.make(kind));
        }
        dueSameTold(what + ", then the calls", got, want);
    }

    private static void dueSameTold(String what, Desk got, Desk want) {
        for (int i = 0; i < 8; i++) {
            due(what + ", then told(" + i + ")", got.told(i), want.told(i));
        }
    }

    /** What told(0) .. told(7) tell of a busy desk. */
    private static long[] busyTold() {
        return new long[] {1, 2, 1, 2, 4003, 14, 2, BUSY_LOG};
    }

    /** A busy desk with nothing collected. */
    private static Desk emptiedDesk() {
        Desk desk = busyDesk();
        desk.call(0, 1, 0);
        return desk;
    }

    /** All that there is to a desk, as it is due: a new one is a busy desk's. */
    private static final class Left {
        final long[] told = busyTold();
        final long[] values = new long[20];
        final int[] failures = new int[20];
        final Set<Integer> things = new HashSet<>();
        long digest = BUSY_DIGEST;

        Left() {
            for (int call = 0; call < 20; call++) {
                values[call] = 100 * call + 1;
            }
            failures[3] = 1;
            failures[14] = 2;
            failures[5] = 3;
            for (int kind = 0; kind < 10; kind++) {
                things.add(kind * 1000 + 1);
                things.add(kind * 1000 + 3);
            }
        }

        int thingsOf(int kind) {
            int count = 0;
            for (int number : things) {
                count += number / 1000 == kind ? 1 : 0;
            }
            return count;
        }
    }

    /** What is due of an emptied desk. */
    private static Left emptiedLeft() {
        Left left = new Left();
        left.told[0] = 2;
        left.told[6] = 0;
        left.told[7] = loggedAnswer(BUSY_LOG, 0, 1, 1 + BUSY_DIGEST);
        left.digest = 0;
        return left;
    }

    /** All that told, numbers, isThere, again and log tell of a desk must be as it is due. */
    private static void dueLeft(String what, Desk desk, Left left) {
        for (int i = 0; i < 8; i++) {
            due(what + ", then told(" + i + ")", desk.told(i), left.told[i]);
        }
        for (int kind = 0; kind < 10; kind++) {
            due(what + ", then numbers(" + kind + ")", desk.numbers(kind), left.thingsOf(kind));
            for (int number = kind * 1000; number <= kind * 1000 + 5; number++) {
                due(what + ", then isThere(" + number + ")", desk.isThere(number), left.things.contains(number));
            }
        }
        for (int call = -1; call <= 20; call++) {
            for (int count = 1; count <= 4; count++) {
                dueLeftOfCall(what, desk, call, Math.floorMod(call, 10) * 1000 + count, left);
            }
        }
    }

    private static void dueLeftOfCall(String what, Desk desk, int call, int number, Left left) {
        boolean isOutside = call < 0 || call > 19;
        boolean isKnown = left.things.contains(number);
        long logged = left.told[7];
        long reply;
        if (isOutside) {
            reply = PostDesk2.OUTSIDE;
        } else if (!isKnown || (call > 9 && left.told[6] == 0)) {
            reply = isKnown ? PostDesk2.EMPTY : PostDesk2.UNKNOWN;
            logged = loggedRefusal(logged, call, number);
        } else if (left.failures[call] != 0) {
            reply = PostDesk2.FAILED;
            logged = loggedFailure(logged, call, number, left.failures[call]);
        } else {
            reply = answerOf(left.values[call], 9, left.digest);
            logged = loggedAnswer(logged, call, number, reply);
        }
        due(what + ", then again(" + call + ", " + number + ", 9)", desk.again(call, number, 9), reply);
        due(what + ", then log(" + call + ", " + number + ", 9)", desk.log(call, number, 9), logged);
    }

    // What it is.

    private static void numbersComeOnce() {
        Desk desk = new Desk();
        Set<Integer> seen = new HashSet<>();
        for (int i = 0; i < 20; i++) {
            for (int kind = 0; kind < 10; kind++) {
                int number = desk.make(kind);
                due("make(" + kind + ") answers a new number", seen.add(number), true);
                if (i % 2 == 0) {
                    desk.drop(number);
                }
            }
        }
        due("how many numbers", seen.size(), 200);
    }

    private static void callsGoOrAreRefused() {
        Desk desk = deskWithOneOfEach();
        desk.answer(6, 600);
        due("to its part", desk.call(6, 6001, 1), 601);
        due("refused", desk.call(6, 7001, 1), PostDesk2.UNKNOWN);
        due("refused too", desk.call(16, 6001, 1), PostDesk2.EMPTY);
        due("to its part once more", desk.call(6, 6001, 2), 602);
        due("how many went", desk.told(0), 2);
        due("how many were refused", desk.told(1), 2);
    }

    private static void collectedForTheNextCall() {
        for (int call = 0; call < 20; call++) {
            Desk desk = deskWithOneOfEach();
            // No byte, though the document's first line speaks of bytes: promise 2 takes any long.
            desk.collect(300);
            desk.collect(-70000);
            due("the next call", desk.call(call, firstFor(call), 0), 31 * 300 - 70000);
            due("the one behind it", desk.call(call % 10, firstFor(call), 0), 0);
        }
    }

    private static void failuresAreCaughtAndTold() {
        for (int call = 0; call < 20; call++) {
            for (int kind = 1; kind <= 3; kind++) {
                Desk desk = deskWithOneOfEach();
                desk.collect(1);
                desk.fails(call, kind);
                try {
                    due("again(" + call + ", ..)", desk.again(call, firstFor(call), 0), PostDesk2.FAILED);
                    desk.log(call, firstFor(call), 0);
                    due("call(" + call + ", ..)", desk.call(call, firstFor(call), 0), PostDesk2.FAILED);
                } catch (Throwable e) {
                    fault("a failure by " + kind + " reached the caller: " + e);
                }
                dueLatest(desk, kind, firstFor(call), call);
            }
        }
    }

    private static void sameActsOnASecondDesk() {
        for (int[] asked : ASKED) {
            Desk second = busyDesk();
            long reply = second.call(asked[0], asked[1], 5);
            due("again(" + asked[0] + ", " + asked[1] + ")", busyDesk().again(asked[0], asked[1], 5), reply);
            due("log(" + asked[0] + ", " + asked[1] + ")", busyDesk().log(asked[0], asked[1], 5), second.told(7));
        }
    }

    private static void answeredUpTo512() {
        Desk desk = new Desk();
        desk.make(0);
        long logged = 7;
        for (int i = 2; i <= 511; i++) {
            due("call " + i, desk.call(0, 1, i), i);
            logged = loggedAnswer(logged, 0, 1, i);
        }
        due("the 512th call, told(7)", desk.told(7), logged);
        Desk other = new Desk();
        other.make(0);
        for (int i = 2; i <= 511; i++) {
            other.call(0, 1, i);
        }
        due("the 512th call, told(0)", other.told(0), 510);
    }

    private static void refusedUpTo512() {
        Desk desk = new Desk();
        long logged = 7;
        for (int i = 1; i <= 511; i++) {
            due("call " + i, desk.call(3, 3001, i), PostDesk2.UNKNOWN);
            logged = loggedRefusal(logged, 3, 3001);
        }
        due("the 512th call, told(7)", desk.told(7), logged);
        Desk other = new Desk();
        for (int i = 1; i <= 511; i++) {
            other.call(3, 3001, i);
        }
        due("the 512th call, told(1)", other.told(1), 511);
    }

    private static void failedUpTo512() {
        Desk desk = new Desk();
        desk.make(0);
        desk.fails(0, 3);
        long logged = 7;
        for (int i = 3; i <= 511; i++) {
            due("call " + i, desk.call(0, 1, i), PostDesk2.FAILED);
            logged = loggedFailure(logged, 0, 1, 3);
        }
        due("the 512th call, told(7)", desk.told(7), logged);
        Desk other = new Desk();
        other.make(0);
        other.fails(0, 3);
        for (int i = 3; i <= 511; i++) {
            other.call(0, 1, i);
        }
        due("the 512th call, told(2)", other.told(2), 509);
    }

    private static void collectUpTo512() {
        Desk desk = new Desk();
        for (int i = 1; i <= 512; i++) {
            due("call " + i, desk.collect(i), i <= 40 ? i : PostDesk2.ROOM);
        }
        Desk emptied = new Desk();
        emptied.make(0);
        for (int i = 2; i <= 510; i += 2) {
            due("call " + i, emptied.collect(i), 1);
            due("call " + (i + 1), emptied.call(10, 1, 1), i + 1);
        }
        due("the 512th call", emptied.collect(1), 1);
    }

    private static void makeUpTo512() {
        Desk desk = new Desk();
        for (int kind = 5; kind < 10; kind++) {
            for (int i = 1; i <= 99; i++) {
                due("make(" + kind + ")", desk.make(kind), kind * 1000 + i);
            }
            due("make(" + kind + ")", desk.make(kind), PostDesk2.ROOM);
            due("isThere of the last", desk.isThere(kind * 1000 + 99), true);
        }
        for (int kind = 0; kind < 6; kind++) {
            due("make(" + kind + ")", desk.make(kind), kind < 5 ? kind * 1000 + 1 : PostDesk2.ROOM);
        }
        due("the 512th call", desk.numbers(9), 99);
    }

    private static Desk deskOf511Acts() {
        Desk desk = new Desk();
        desk.make(9);
        desk.answer(19, 3);
        for (int i = 1; i <= 100; i++) {
            desk.collect(i);
            desk.call(19, 9001, i);
            desk.call(19, 9001, i);
            desk.make(9);
            desk.drop(9001 + i);
        }
        for (int i = 0; i < 9; i++) {
            desk.collect(5);
        }
        return desk;
    }

    private static void secondDeskOf511Acts() {
        long[] collected = {5, 5, 5, 5, 5, 5, 5, 5, 5};
        long logged = 7;
        for (int i = 1; i <= 100; i++) {
            logged = loggedAnswer(logged, 19, 9001, 3 + i + i);
            logged = loggedRefusal(logged, 19, 9001);
        }
        long answer = answerOf(3, 8, collected);
        due("the 512th call, again", deskOf511Acts().again(19, 9001, 8), answer);
        due("the 512th call, again of the last dropped", deskOf511Acts().again(19, 9099, 8), PostDesk2.UNKNOWN);
        due("the 512th call, log", deskOf511Acts().log(19, 9001, 8), loggedAnswer(logged, 19, 9001, answer));
    }

    private static void askedUpTo512() {
        Desk desk = new Desk();
        desk.make(4);
        desk.collect(6);
        for (int i = 3; i <= 512; i += 2) {
            due("call " + i, desk.again(14, 4001, i), i + 6);
            due("call " + (i + 1), desk.log(14, 4001, i), loggedAnswer(7, 14, 4001, i + 6));
        }
    }

    // THINGS.

    private static void kindsAre0To9() {
        for (int kind = 0; kind < 10; kind++) {
            Desk desk = new Desk();
            due("numbers(" + kind + ")", desk.numbers(kind), 0);
            due("make(" + kind + ")", desk.make(kind), kind * 1000 + 1);
        }
        Desk desk = new Desk();
        for (int kind : NO_KINDS) {
            due("make(" + kind + ")", desk.make(kind), PostDesk2.NONE);
            due("numbers(" + kind + ")", desk.numbers(kind), PostDesk2.NONE);
        }
    }

    private static void numbersCountByKind() {
        Desk desk = new Desk();
        for (int i = 1; i <= 20; i++) {
            for (int kind = 9; kind >= 0; kind--) {
                due("make(" + kind + ")", desk.make(kind), kind * 1000 + i);
            }
        }
        for (int kind = 0; kind < 10; kind++) {
            due("isThere of the last made", desk.isThere(kind * 1000 + 20), true);
            due("isThere of the next", desk.isThere(kind * 1000 + 21), false);
        }
    }

    private static void numbersAre1To99() {
        for (int kind = 0; kind < 10; kind++) {
            Desk desk = deskWith99(kind);
            if (kind > 0) {
                desk.make(kind - 1);
            }
            if (kind < 9) {
                desk.make(kind + 1);
            }
            int base = kind * 1000;
            for (int count = 1; count <= 99; count++) {
                due("isThere(" + (base + count) + ")", desk.isThere(base + count), true);
            }
            for (int count : new int[] {-999, -1, 0, 100, 101, 102, 199, 200, 201, 255, 257, 999}) {
                // 999 below a kind is the first of the kind below it.
                boolean want = count == -999 && kind > 0;
                due("isThere(" + (base + count) + ")", desk.isThere(base + count), want);
            }
        }
    }

    private static void droppedNeverComesAgain() {
        for (int kind = 0; kind < 10; kind++) {
            Desk desk = new Desk();
            for (int i = 1; i <= 99; i++) {
                due("make behind a drop", desk.make(kind), kind * 1000 + i);
                due("drop", desk.drop(kind * 1000 + i), true);
            }
            due("make with none there", desk.make(kind), PostDesk2.ROOM);
            for (int i = 1; i <= 99; i++) {
                due("isThere of a dropped one", desk.isThere(kind * 1000 + i), false);
            }
            due("numbers", desk.numbers(kind), 0);
        }
        Desk full = deskWith99(7);
        due("drop of the last", full.drop(7099), true);
        due("make behind it", full.make(7), PostDesk2.ROOM);
        due("isThere of the last", full.isThere(7099), false);
        due("isThere of the one before", full.isThere(7098), true);
    }

    // CALLS.

    private static void callsAre0To19() {
        Desk desk = deskWithOneOfEach();
        for (int call = 0; call < 20; call++) {
            desk.collect(0);
            due("call(" + call + ", ..)", desk.call(call, firstFor(call), 3), 3);
        }
        for (int call : NO_CALLS) {
            desk.collect(0);
            int number = Math.floorMod(call, 10) * 1000 + 1;
            due("call(" + call + ", ..)", desk.call(call, number, 3), PostDesk2.OUTSIDE);
        }
    }

    private static void callsAreForTheirKind() {
        for (int call = 0; call < 20; call++) {
            Desk desk = deskWithOneOfEach();
            desk.answer(call, 70 + call);
            for (int kind = 0; kind < 10; kind++) {
                desk.collect(0);
                long want = kind == call - 10 || kind == call ? 71 + call : PostDesk2.UNKNOWN;
                due("call(" + call + ") of kind " + kind, desk.call(call, kind * 1000 + 1, 1), want);
            }
        }
    }

    private static void callsFrom10OnWant() {
        for (int call = 0; call < 20; call++) {
            Desk desk = deskWithOneOfEach();
            due("call(" + call + ", ..)", desk.call(call, firstFor(call), 2), call >= 10 ? PostDesk2.EMPTY : 2);
            desk.collect(6);
            due("call(" + call + ", ..) with one collected", desk.call(call, firstFor(call), 2), 8);
        }
    }

    // PARTS.

    private static void eachCallHasItsPart() {
        for (int call = 0; call < 20; call++) {
            Desk desk = deskWithOneOfEach();
            desk.answer(call, 500);
            for (int other = 0; other < 20; other++) {
                desk.collect(0);
                due("V of part " + other, desk.call(other, firstFor(other), 0), other == call ? 500 : 0);
            }
            desk.fails(call, 2);
            for (int other = 0; other < 20; other++) {
                desk.collect(0);
                long want = other == call ? PostDesk2.FAILED : 0;
                due("part " + other + " where " + call + " fails", desk.call(other, firstFor(other), 0), want);
            }
        }
    }

    private static void partsAnswerTheSum() {
        for (int call = 0; call < 20; call++) {
            Desk desk = deskWithOneOfEach();
            desk.answer(call, 7000);
            desk.collect(2);
            desk.collect(3);
            due("call(" + call + ", ..)", desk.call(call, firstFor(call), 400), 7000 + 400 + 31 * 2 + 3);
            desk.collect(0);
            due("V stays, the argument does not", desk.call(call, firstFor(call), 50), 7000 + 50);
        }
    }

    private static void valueIsZeroAtFirst() {
        Desk desk = deskWithOneOfEach();
        for (int call = 0; call < 20; call++) {
            desk.collect(0);
            due("call(" + call + ", ..)", desk.call(call, firstFor(call), 0), 0);
        }
    }

    private static void valueAndArgumentWrap() {
        Desk desk = deskWithOneOfEach();
        for (long v : ANY_LONGS) {
            desk.answer(2, v);
            for (long a : ANY_LONGS) {
                due(v + " plus " + a, desk.call(2, 2001, a), answerOf(v, a));
            }
        }
    }

    private static void digestIsAddedAndWraps() {
        for (long v : new long[] {LONG_LEAST, -1, 0, 1, LONG_MOST}) {
            for (long a : new long[] {LONG_LEAST, -1, 0, 1, LONG_MOST}) {
                Desk desk = deskWithOneOfEach();
                desk.answer(12, v);
                for (long one : ANY_LONGS) {
                    desk.collect(one);
                    due(v + " plus " + a + " plus " + one, desk.call(12, 2001, a), answerOf(v, a, one));
                }
            }
        }
    }

    private static void digestIsZeroWithoutAnything() {
        Desk desk = deskWithOneOfEach();
        due("on a new desk", desk.call(4, 4001, 0), 0);
        desk.collect(LONG_MOST);
        desk.collect(-5);
        desk.call(4, 4001, 0);
        due("behind an answer", desk.call(4, 4001, 0), 0);
        desk.collect(1);
        desk.call(14, 4001, 0);
        due("behind an answer of a call that wants", desk.call(4, 4001, 0), 0);
        desk.call(14, 4001, 0);
        due("behind EMPTY", desk.call(4, 4001, 0), 0);
    }

    private static void dueDigest(long... collected) {
        Desk desk = deskWithOneOfEach();
        StringBuilder told = new StringBuilder("the digest of");
        for (long one : collected) {
            desk.collect(one);
            told.append(' ').append(one);
        }
        due(told.toString(), desk.call(18, 8001, 0), answerOf(0, 0, collected));
    }

    private static void digestGoesByOrder() {
        dueDigest(1);
        dueDigest(1, 2);
        dueDigest(2, 1);
        dueDigest(0, 1);
        dueDigest(1, 0);
        dueDigest(1, 0, 0);
        dueDigest(3, 3, 3, 3);
        dueDigest(-1, 31);
        dueDigest(1, 2, 3, 4, 5, 6, 7, 8, 9, 10);
        dueDigest(10, 9, 8, 7, 6, 5, 4, 3, 2, 1);
        dueDigest(new long[40]);
    }

    private static void digestItselfWraps() {
        for (long first : ANY_LONGS) {
            for (long then : ANY_LONGS) {
                dueDigest(first, then);
            }
        }
        long[] full = new long[40];
        for (long one : ANY_LONGS) {
            for (int i = 0; i < 40; i++) {
                full[i] = one ^ i;
            }
            dueDigest(full);
        }
    }

    private static void partsFailByKind() {
        for (int call = 0; call < 20; call++) {
            for (int kind = 1; kind <= 3; kind++) {
                Desk desk = deskWithOneOfEach();
                desk.collect(1);
                desk.fails(call, kind);
                due("call(" + call + ") failing by " + kind, desk.call(call, firstFor(call), 0), PostDesk2.FAILED);
                due("the kind", desk.told(3), kind);
            }
        }
    }

    // A CALL.

    private static void outsideGoesFirst() {
        Desk desk = deskWithOneOfEach();
        for (int call = 0; call < 20; call++) {
            desk.fails(call, 1);
        }
        for (int call : NO_CALLS) {
            int number = Math.floorMod(call, 10) * 1000 + 1;
            due("call(" + call + ") with a thing", desk.call(call, number, 0), PostDesk2.OUTSIDE);
            due("call(" + call + ") without", desk.call(call, number + 1, 0), PostDesk2.OUTSIDE);
            due("call(" + call + ") with no number", desk.call(call, LEAST, 0), PostDesk2.OUTSIDE);
        }
        desk.collect(1);
        for (int call : NO_CALLS) {
            due("call(" + call + ") with one collected", desk.call(call, 1, 0), PostDesk2.OUTSIDE);
        }
    }

    /** Numbers near those of a kind's things, and far from them, that no thing ever has. */
    private static int[] noNumbersNear(int kind) {
        int base = kind * 1000;
        return new int[] {
            base, base - 1, base + 100, base + 101, base + 999, -base - 1, -base - 99, base + 1 + 10 * 1000,
            base + 1 + 256 * 1000, base + 1 + 65536, base + 1 + 256 * 65536, (base + 1) | LEAST, 0, -1, 10000, 10001,
            10099, -999, -9999, MOST, MOST - 1, LEAST, LEAST + 1
        };
    }

    private static void unknownWithoutSuchThing() {
        for (int call = 0; call < 20; call++) {
            Desk desk = deskWithOneOfEach();
            desk.collect(1);
            int kind = call % 10;
            for (int number : noNumbersNear(kind)) {
                due("call(" + call + ", " + number + ")", desk.call(call, number, 0), PostDesk2.UNKNOWN);
            }
            due("the next that will be made", desk.call(call, kind * 1000 + 2, 0), PostDesk2.UNKNOWN);
            due("the last that can be made", desk.call(call, kind * 1000 + 99, 0), PostDesk2.UNKNOWN);
            due("the one that is there", desk.call(call, kind * 1000 + 1, 0), 1);
        }
        for (int kind = 0; kind < 10; kind++) {
            Desk full = deskWith99(kind);
            due("the first of 99", full.call(kind, kind * 1000 + 1, 4), 4);
            due("the last of 99", full.call(kind, kind * 1000 + 99, 4), 4);
            due("behind the last", full.call(kind, kind * 1000 + 100, 4), PostDesk2.UNKNOWN);
            due("before the first", full.call(kind, kind * 1000, 4), PostDesk2.UNKNOWN);
        }
    }

    private static void unknownWhenDropped() {
        for (int call = 0; call < 20; call++) {
            Desk desk = deskWithOneOfEach();
            desk.make(call % 10);
            desk.collect(1);
            desk.drop(firstFor(call));
            due("the dropped one", desk.call(call, firstFor(call), 0), PostDesk2.UNKNOWN);
            due("the one behind it", desk.call(call, firstFor(call) + 1, 0), 1);
        }
    }

    private static void unknownOfAnotherKind() {
        for (int call = 0; call < 20; call++) {
            Desk desk = deskWithOneOfEach();
            desk.collect(1);
            for (int step = 1; step < 10; step++) {
                int number = (call + step) % 10 * 1000 + 1;
                due("call(" + call + ", " + number + ")", desk.call(call, number, 0), PostDesk2.UNKNOWN);
            }
        }
    }

    private static void unknownBeforeEmpty() {
        for (int call = 10; call < 20; call++) {
            Desk desk = deskWithOneOfEach();
            due("no such thing", desk.call(call, firstFor(call) + 1, 0), PostDesk2.UNKNOWN);
            due("of another kind", desk.call(call, firstFor(call + 1), 0), PostDesk2.UNKNOWN);
            desk.drop(firstFor(call));
            due("dropped", desk.call(call, firstFor(call), 0), PostDesk2.UNKNOWN);
        }
    }

    private static void emptyWithNothingCollected() {
        for (int call = 10; call < 20; call++) {
            Desk desk = deskWithOneOfEach();
            due("on a new desk", desk.call(call, firstFor(call), 0), PostDesk2.EMPTY);
            desk.collect(0);
            due("with a 0 collected", desk.call(call, firstFor(call), 0), 0);
            due("behind an answer", desk.call(call, firstFor(call), 0), PostDesk2.EMPTY);
            desk.collect(1);
            desk.collect(-31);
            due("with a digest of 0", desk.call(call, firstFor(call), 0), 0);
            desk.collect(1);
            desk.call(call - 10, firstFor(call), 0);
            due("behind an answer of another call", desk.call(call, firstFor(call), 0), PostDesk2.EMPTY);
        }
    }

    private static void refusedDoesNotGoToItsPart() {
        for (int call = 0; call < 20; call++) {
            Desk desk = deskWithOneOfEach();
            desk.fails(call, 2);
            due("UNKNOWN", desk.call(call, firstFor(call) + 1, 0), PostDesk2.UNKNOWN);
            if (call >= 10) {
                due("EMPTY", desk.call(call, firstFor(call), 0), PostDesk2.EMPTY);
            }
            due("failed", desk.told(2), 0);
            desk.collect(1);
            due("with one collected", desk.call(call, firstFor(call), 0), PostDesk2.FAILED);
        }
    }

    private static void refusedLeavesWhatIsCollected() {
        Desk desk = deskWithOneOfEach();
        desk.collect(4);
        desk.collect(LONG_MOST);
        desk.call(20, 1, 0);
        desk.call(-1, 1, 0);
        due("behind OUTSIDE", desk.told(6), 2);
        desk.call(10, 2, 0);
        desk.call(0, 1001, 0);
        due("behind UNKNOWN", desk.told(6), 2);
        due("the digest", desk.call(10, 1, 0), answerOf(0, 0, 4, LONG_MOST));
        desk.call(10, 1, 0);
        due("behind EMPTY", desk.told(6), 0);
        due("collect behind EMPTY", desk.collect(9), 1);
        due("the digest behind EMPTY", desk.call(10, 1, 0), 9);
    }

    private static void elseItGoesToItsPart() {
        for (int call = 0; call < 20; call++) {
            if (call == 3 || call == 14 || call == 5) {
                continue;
            }
            for (int count = 1; count <= 3; count += 2) {
                int number = call % 10 * 1000 + count;
                due("call(" + call + ", " + number + ")", busyDesk().call(call, number, 6),
                    100 * call + 1 + 6 + BUSY_DIGEST);
            }
        }
    }

    private static void answeredTakesWhatWasCollected() {
        for (int call = 0; call < 20; call++) {
            for (int many = 1; many <= 40; many += 13) {
                Desk desk = deskWithOneOfEach();
                for (int i = 0; i < many; i++) {
                    desk.collect(LONG_MOST - i);
                }
                desk.call(call, firstFor(call), 0);
                due("how many behind call(" + call + ")", desk.told(6), 0);
                due("call(" + call + ") again", desk.again(call, firstFor(call), 0), call < 10 ? 0 : PostDesk2.EMPTY);
                due("collect", desk.collect(2), 1);
                due("the digest", desk.call(call, firstFor(call), 0), 2);
            }
        }
    }

    private static void failedLeavesWhatIsCollected() {
        for (int kind = 1; kind <= 3; kind++) {
            Desk desk = deskWithOneOfEach();
            long[] collected = new long[40];
            desk.fails(6, kind);
            due("FAILED with nothing", desk.call(6, 6001, 0), PostDesk2.FAILED);
            due("nothing is there still", desk.told(6), 0);
            due("so a call that wants is EMPTY", desk.call(16, 6001, 0), PostDesk2.EMPTY);
            desk.fails(16, kind);
            for (int i = 0; i < 40; i++) {
                collected[i] = LONG_LEAST + i;
                desk.collect(collected[i]);
                due("FAILED with " + (i + 1), desk.call(i % 2 == 0 ? 6 : 16, 6001, 0), PostDesk2.FAILED);
                due("how many", desk.told(6), i + 1);
            }
            due("the 41st", desk.collect(1), PostDesk2.ROOM);
            due("the digest of all", desk.call(7, 7001, 0), answerOf(0, 0, collected));
        }
    }

    private static void leftBehindOutside() {
        dueLeft("before it", busyDesk(), new Left());
        dueLeft("before it, with nothing collected", emptiedDesk(), emptiedLeft());
        for (int call : NO_CALLS) {
            for (int number : new int[] {1, 2, MOST}) {
                Desk desk = busyDesk();
                desk.call(call, number, 8);
                dueLeft("call(" + call + ", " + number + ")", desk, new Left());
            }
            Desk emptied = emptiedDesk();
            emptied.call(call, 1, 8);
            dueLeft("call(" + call + ", 1) with nothing collected", emptied, emptiedLeft());
        }
    }

    private static void leftBehindUnknown() {
        for (int call = 0; call < 20; call++) {
            int kind = call % 10 * 1000;
            int other = (call + 1) % 10 * 1000;
            for (int number : new int[] {kind + 2, kind + 4, other + 1, kind, 10001, -1, LEAST, MOST}) {
                Desk desk = busyDesk();
                Left left = new Left();
                desk.call(call, number, 8);
                left.told[1]++;
                left.told[7] = loggedRefusal(BUSY_LOG, call, number);
                dueLeft("call(" + call + ", " + number + ")", desk, left);
            }
        }
    }

    private static void leftBehindEmpty() {
        for (int call = 10; call < 20; call++) {
            Desk desk = emptiedDesk();
            Left left = emptiedLeft();
            desk.call(call, firstFor(call), 8);
            left.told[1]++;
            left.told[7] = loggedRefusal(left.told[7], call, firstFor(call));
            dueLeft("call(" + call + ", ..)", desk, left);
        }
    }

    private static void leftBehindAnAnswer() {
        for (int call = 0; call < 20; call++) {
            Left left = new Left();
            if (left.failures[call] != 0) {
                continue;
            }
            Desk desk = busyDesk();
            desk.call(call, firstFor(call), 8);
            left.told[0]++;
            left.told[6] = 0;
            left.told[7] = loggedAnswer(BUSY_LOG, call, firstFor(call), 100 * call + 1 + 8 + BUSY_DIGEST);
            left.digest = 0;
            dueLeft("call(" + call + ", ..)", desk, left);
        }
        Desk emptied = emptiedDesk();
        Left left = emptiedLeft();
        emptied.call(7, 7003, 8);
        left.told[0]++;
        left.told[7] = loggedAnswer(left.told[7], 7, 7003, 700 + 1 + 8);
        dueLeft("call(7, 7003) with nothing collected", emptied, left);
    }

    private static void failedLeft(Left left, int call, int number) {
        int kind = left.failures[call];
        left.told[2]++;
        left.told[3] = kind;
        left.told[4] = number;
        left.told[5] = call;
        left.told[7] = loggedFailure(left.told[7], call, number, kind);
    }

    private static void leftBehindFailed() {
        int[][] failing = {{3, 3001}, {3, 3003}, {14, 4001}, {14, 4003}, {5, 5001}, {5, 5003}};
        for (int[] one : failing) {
            Desk desk = busyDesk();
            Left left = new Left();
            desk.call(one[0], one[1], 8);
            failedLeft(left, one[0], one[1]);
            dueLeft("call(" + one[0] + ", " + one[1] + ")", desk, left);
        }
        Desk emptied = emptiedDesk();
        Left left = emptiedLeft();
        emptied.call(5, 5001, 8);
        failedLeft(left, 5, 5001);
        dueLeft("call(5, 5001) with nothing collected", emptied, left);
    }

    // THE LOG.

    private static void logHasEachCall() {
        Desk desk = busyDesk();
        desk.call(0, 3, 4);
        long logged = loggedAnswer(BUSY_LOG, 0, 3, 1 + 4 + BUSY_DIGEST);
        desk.call(20, 3, 4);
        desk.call(5, 5001, 4);
        logged = loggedFailure(logged, 5, 5001, 3);
        desk.call(-1, 3, 4);
        desk.call(19, 9001, 4);
        logged = loggedRefusal(logged, 19, 9001);
        desk.call(19, 9002, 4);
        logged = loggedRefusal(logged, 19, 9002);
        desk.call(9, 9001, 4);
        logged = loggedAnswer(logged, 9, 9001, 901 + 4);
        due("L of them all", desk.told(7), logged);
    }

    private static void logIsSevenAtFirst() {
        due("told(7)", new Desk().told(7), 7);
        due("the first call's", firstLogged(0, 1), 17 * (7000021 + 32) - 1);
        due("log behind OUTSIDE", new Desk().log(20, 1, 0), 7);
    }

    private static long firstLogged(int call, int number) {
        Desk desk = new Desk();
        desk.call(call, number, 0);
        return desk.told(7);
    }

    private static void logOfEachCall() {
        for (int call = 0; call < 20; call++) {
            for (int number = 0; number < 10000; number += 999) {
                due("L of call(" + call + ", " + number + ")", firstLogged(call, number),
                    17 * (7 * 1000003 + 32 * number + call) - 1);
            }
        }
        Desk desk = new Desk();
        desk.call(19, 9099, 0);
        desk.call(0, 1, 0);
        long first = 17 * (7 * 1000003 + 32 * 9099 + 19) - 1;
        due("L of two calls", desk.told(7), 17 * (1000003 * first + 32) - 1);
    }

    private static void logWraps() {
        Desk desk = deskWithOneOfEach();
        long logged = 7;
        boolean below = false;
        for (int i = 0; i < 200; i++) {
            desk.call(i % 20, firstFor(i % 20), LONG_MOST);
            if (i % 20 >= 10) {
                logged = loggedRefusal(logged, i % 20, firstFor(i % 20));
            } else {
                logged = loggedAnswer(logged, i % 20, firstFor(i % 20), LONG_MOST);
            }
            due("L of " + (i + 1) + " calls", desk.told(7), logged);
            below |= logged < 0;
        }
        due("L has wrapped", below, true);
    }

    private static void logOfAnyNumber() {
        // 67108863 is the last whose 32 times is an int, and 67108864 the first whose is not; so below 0.
        int[] numbers = {
            LEAST, LEAST + 1, -67108865, -67108864, -67108863, -1, 0, 1, 67108863, 67108864, 134217728, MOST - 1, MOST
        };
        for (int number : numbers) {
            due("L of UNKNOWN " + number, firstLogged(5, number), loggedRefusal(7, 5, number));
        }
        due("L of the largest", firstLogged(0, MOST), 17L * (7 * 1000003 + 32L * MOST) - 1);
        due("L of the smallest", firstLogged(0, LEAST), 17L * (7 * 1000003 + 32L * LEAST) - 1);
    }

    private static void logOfAnswers() {
        for (long answer : ANY_LONGS) {
            Desk desk = deskWithOneOfEach();
            desk.call(3, 3001, answer);
            due("L of the answer " + answer, desk.told(7), loggedAnswer(7, 3, 3001, answer));
            Desk other = deskWithOneOfEach();
            other.answer(13, answer);
            other.collect(answer);
            other.collect(1);
            other.call(13, 3001, 5);
            due("L of V, argument and digest", other.told(7),
                loggedAnswer(7, 13, 3001, answerOf(answer, 5, answer, 1)));
        }
    }

    private static void logOfAnswersThatAreCodes() {
        long[] codes = {PostDesk2.UNKNOWN, PostDesk2.OUTSIDE, PostDesk2.EMPTY, PostDesk2.FAILED, PostDesk2.NONE,
            PostDesk2.ROOM};
        for (long code : codes) {
            dueAnswered(0, code, 0);
            dueAnswered(code, 0, 0);
            dueAnswered(0, 0, code);
        }
    }

    private static void dueAnswered(long v, long a, long collected) {
        Desk desk = deskWithOneOfEach();
        desk.answer(13, v);
        desk.collect(collected);
        long answer = v + a + collected;
        long logged = loggedAnswer(7, 13, 3001, answer);
        due("again", desk.again(13, 3001, a), answer);
        due("log", desk.log(13, 3001, a), logged);
        due("call", desk.call(13, 3001, a), answer);
        due("L", desk.told(7), logged);
        due("answered", desk.told(0), 1);
        due("refused", desk.told(1), 0);
        due("failed", desk.told(2), 0);
        due("collected", desk.told(6), 0);
    }

    private static void logOfRefusals() {
        for (long a : ANY_LONGS) {
            Desk desk = deskWithOneOfEach();
            desk.call(14, 4001, a);
            long logged = loggedRefusal(7, 14, 4001);
            due("L of EMPTY", desk.told(7), logged);
            desk.call(14, 4002, a);
            logged = loggedRefusal(logged, 14, 4002);
            due("L of UNKNOWN", desk.told(7), logged);
            desk.call(4, 5001, a);
            logged = loggedRefusal(logged, 4, 5001);
            due("L of another kind", desk.told(7), logged);
            desk.fails(14, 3);
            desk.call(14, 4001, a);
            logged = loggedRefusal(logged, 14, 4001);
            due("L of EMPTY where the part fails", desk.told(7), logged);
        }
    }

    private static void logOfFailures() {
        for (int kind = 1; kind <= 3; kind++) {
            for (long a : ANY_LONGS) {
                Desk desk = deskWithOneOfEach();
                desk.answer(8, a);
                desk.fails(8, kind);
                desk.collect(a);
                desk.call(8, 8001, a);
                due("L of a failure by " + kind, desk.told(7), loggedFailure(7, 8, 8001, kind));
            }
        }
    }

    private static void logHasNoOutside() {
        Desk desk = deskWithOneOfEach();
        for (int call : NO_CALLS) {
            for (int number : new int[] {1, 2, 9001, LEAST, MOST}) {
                desk.call(call, number, 1);
            }
            due("L behind call(" + call + ", ..)", desk.told(7), 7);
        }
        desk.call(1, 1001, 0);
        due("L of the first that was not", desk.told(7), loggedAnswer(7, 1, 1001, 0));
    }

    private static void logHasCallsAlone() {
        Desk desk = busyDesk();
        due("L", desk.told(7), BUSY_LOG);
        desk.collect(1);
        desk.answer(1, 1);
        desk.fails(1, 1);
        desk.make(1);
        desk.drop(1001);
        desk.numbers(1);
        desk.isThere(1);
        desk.again(1, 1003, 1);
        desk.log(1, 1003, 1);
        desk.told(1);
        due("L behind all else", desk.told(7), BUSY_LOG);
    }

    // A SECOND DESK.

    private static void dueOnSecondDesk(String what, Desk desk, int call, int number, long reply, long logged) {
        due(what + ": again", desk.again(call, number, 2), reply);
        due(what + ": log", desk.log(call, number, 2), logged);
    }

    private static void secondDeskHasThingsMade() {
        for (int kind = 0; kind < 10; kind++) {
            Desk desk = new Desk();
            for (int i = 1; i <= 99; i++) {
                int number = kind * 1000 + i;
                dueOnSecondDesk("before it is made", desk, kind, number, PostDesk2.UNKNOWN,
                    loggedRefusal(7, kind, number));
                desk.make(kind);
                dueOnSecondDesk("made", desk, kind, number, 2, loggedAnswer(7, kind, number, 2));
            }
            desk.make(kind);
            dueOnSecondDesk("no room", desk, kind, kind * 1000 + 100, PostDesk2.UNKNOWN,
                loggedRefusal(7, kind, kind * 1000 + 100));
        }
    }

    private static void secondDeskHasThingsDropped() {
        Desk desk = new Desk();
        desk.make(9);
        desk.drop(9001);
        dueOnSecondDesk("dropped", desk, 9, 9001, PostDesk2.UNKNOWN, loggedRefusal(7, 9, 9001));
        desk.make(9);
        dueOnSecondDesk("the next", desk, 9, 9002, 2, loggedAnswer(7, 9, 9002, 2));
        dueOnSecondDesk("dropped still", desk, 9, 9001, PostDesk2.UNKNOWN, loggedRefusal(7, 9, 9001));
        desk.drop(9003);
        desk.make(9);
        dueOnSecondDesk("dropped before it was made", desk, 9, 9003, 2, loggedAnswer(7, 9, 9003, 2));
    }

    private static void secondDeskHasNumbersCollected() {
        Desk desk = deskWithOneOfEach();
        dueOnSecondDesk("nothing", desk, 15, 5001, PostDesk2.EMPTY, loggedRefusal(7, 15, 5001));
        long[] collected = new long[0];
        for (int i = 1; i <= 40; i++) {
            collected = Arrays.copyOf(collected, i);
            collected[i - 1] = LONG_MOST - i;
            desk.collect(collected[i - 1]);
            long answer = answerOf(0, 2, collected);
            dueOnSecondDesk(i + " collected", desk, 15, 5001, answer, loggedAnswer(7, 15, 5001, answer));
        }
        desk.collect(77);
        long answer = answerOf(0, 2, collected);
        dueOnSecondDesk("no room", desk, 15, 5001, answer, loggedAnswer(7, 15, 5001, answer));
    }

    private static void secondDeskHasAnswersSet() {
        for (long v : ANY_LONGS) {
            Desk desk = deskWithOneOfEach();
            desk.answer(7, 5);
            desk.answer(7, v);
            dueOnSecondDesk("V is " + v, desk, 7, 7001, answerOf(v, 2), loggedAnswer(7, 7, 7001, answerOf(v, 2)));
            dueOnSecondDesk("another part", desk, 8, 8001, 2, loggedAnswer(7, 8, 8001, 2));
        }
    }

    private static void secondDeskHasFailuresSet() {
        for (int kind = 1; kind <= 3; kind++) {
            Desk desk = deskWithOneOfEach();
            desk.fails(7, kind);
            dueOnSecondDesk("failing", desk, 7, 7001, PostDesk2.FAILED, loggedFailure(7, 7, 7001, kind));
            dueOnSecondDesk("another part", desk, 8, 8001, 2, loggedAnswer(7, 8, 8001, 2));
            desk.fails(7, 0);
            dueOnSecondDesk("no more", desk, 7, 7001, 2, loggedAnswer(7, 7, 7001, 2));
        }
    }

    private static void secondDeskHasCalls() {
        Desk desk = deskWithOneOfEach();
        desk.collect(30);
        desk.fails(1, 2);
        desk.call(1, 1001, 0);
        long logged = loggedFailure(7, 1, 1001, 2);
        dueOnSecondDesk("behind a failure", desk, 12, 2001, 32, loggedAnswer(logged, 12, 2001, 32));
        desk.call(12, 2002, 0);
        logged = loggedRefusal(logged, 12, 2002);
        dueOnSecondDesk("behind UNKNOWN", desk, 12, 2001, 32, loggedAnswer(logged, 12, 2001, 32));
        desk.call(20, 2001, 0);
        dueOnSecondDesk("behind OUTSIDE", desk, 12, 2001, 32, loggedAnswer(logged, 12, 2001, 32));
        desk.call(12, 2001, 4);
        logged = loggedAnswer(logged, 12, 2001, 34);
        dueOnSecondDesk("behind an answer", desk, 12, 2001, PostDesk2.EMPTY, loggedRefusal(logged, 12, 2001));
        desk.call(12, 2001, 4);
        logged = loggedRefusal(logged, 12, 2001);
        dueOnSecondDesk("behind EMPTY", desk, 2, 2001, 2, loggedAnswer(logged, 2, 2001, 2));
    }

    private static void secondDeskKeepsTheOrder() {
        Desk answersLast = deskWithOneOfEach();
        answersLast.fails(3, 1);
        answersLast.answer(3, 8);
        dueOnSecondDesk("fails, then answer", answersLast, 3, 3001, 10, loggedAnswer(7, 3, 3001, 10));
        Desk failsLast = deskWithOneOfEach();
        failsLast.answer(3, 8);
        failsLast.fails(3, 1);
        dueOnSecondDesk("answer, then fails", failsLast, 3, 3001, PostDesk2.FAILED, loggedFailure(7, 3, 3001, 1));
        Desk collectsLast = deskWithOneOfEach();
        collectsLast.call(3, 3001, 1);
        collectsLast.collect(5);
        dueOnSecondDesk("call, then collect", collectsLast, 13, 3001, 7,
            loggedAnswer(loggedAnswer(7, 3, 3001, 1), 13, 3001, 7));
        Desk callsLast = deskWithOneOfEach();
        callsLast.collect(5);
        callsLast.call(3, 3001, 1);
        dueOnSecondDesk("collect, then call", callsLast, 13, 3001, PostDesk2.EMPTY,
            loggedRefusal(loggedAnswer(7, 3, 3001, 6), 13, 3001));
    }

    // Promises 1 to 5.

    private static void newDeskHasNoThings() {
        Desk desk = new Desk();
        for (int kind = 0; kind < 10; kind++) {
            due("numbers(" + kind + ")", desk.numbers(kind), 0);
            for (int count : new int[] {0, 1, 2, 98, 99, 100}) {
                due("isThere", desk.isThere(kind * 1000 + count), false);
                due("drop", desk.drop(kind * 1000 + count), false);
            }
        }
        Desk full = deskWith99(0);
        due("another desk's things", full.isThere(99), true);
        due("are not this one's", new Desk().isThere(99), false);
    }

    private static void newDeskHasNothingCollected() {
        Desk full = new Desk();
        for (int i = 0; i < 40; i++) {
            full.collect(i);
        }
        Desk desk = new Desk();
        due("told(6)", desk.told(6), 0);
        desk.make(0);
        due("call(10, ..)", desk.call(10, 1, 0), PostDesk2.EMPTY);
        due("call(0, ..)", desk.call(0, 1, 0), 0);
    }

    private static void newPartsAnswerZero() {
        Desk other = deskWithOneOfEach();
        for (int call = 0; call < 20; call++) {
            other.answer(call, 9);
            other.fails(call, 1);
        }
        for (int call = 0; call < 20; call++) {
            for (long a : ANY_LONGS) {
                Desk desk = deskWithOneOfEach();
                desk.collect(3);
                desk.collect(a);
                due("call(" + call + ", .., " + a + ")", desk.call(call, firstFor(call), a), answerOf(0, a, 3, a));
            }
        }
    }

    private static void collectTellsHowMany() {
        for (long v : ANY_LONGS) {
            Desk desk = new Desk();
            due("the first", desk.collect(v), 1);
            due("the second", desk.collect(v), 2);
        }
        Desk codes = new Desk();
        due("ROOM itself", codes.collect(PostDesk2.ROOM), 1);
        due("NONE itself", codes.collect(PostDesk2.NONE), 2);
    }

    private static void collectHasRoomFor40() {
        Desk desk = deskWithOneOfEach();
        for (int round = 0; round < 3; round++) {
            for (int i = 1; i <= 40; i++) {
                due("the " + i + "th", desk.collect(i), i);
            }
            due("the 41st", desk.collect(0), PostDesk2.ROOM);
            due("the 42nd", desk.collect(LONG_MOST), PostDesk2.ROOM);
            desk.call(0, 1, 0);
        }
    }

    private static Desk fullDesk() {
        Desk desk = busyDesk();
        for (int i = 3; i <= 40; i++) {
            desk.collect(i);
        }
        return desk;
    }

    private static void collectWithoutRoomChangesNothing() {
        for (long v : ANY_LONGS) {
            Desk desk = fullDesk();
            due("collect", desk.collect(v), PostDesk2.ROOM);
            dueSame("collect(" + v + ") without room", desk, fullDesk());
        }
    }

    private static void answerSetsAnyValue() {
        for (int call = 0; call < 20; call++) {
            Desk desk = deskWithOneOfEach();
            for (long v : ANY_LONGS) {
                due("answer(" + call + ", " + v + ")", desk.answer(call, v), 1);
                desk.collect(0);
                due("call(" + call + ", ..)", desk.call(call, firstFor(call), 0), v);
                desk.collect(0);
                due("and again", desk.call(call, firstFor(call), 0), v);
            }
            for (int other = 0; other < 20; other++) {
                desk.collect(0);
                due("V of part " + other, desk.call(other, firstFor(other), 0), other == call ? LONG_MOST : 0);
            }
        }
    }

    private static void answerEndsFailing() {
        for (int call = 0; call < 20; call++) {
            for (int kind = 0; kind <= 3; kind++) {
                Desk desk = deskWithOneOfEach();
                desk.collect(1);
                desk.fails(call, kind);
                desk.fails((call + 1) % 20, 1);
                due("answer", desk.answer(call, 30), 1);
                due("the one beside fails still", desk.call((call + 1) % 20, firstFor(call + 1), 0), PostDesk2.FAILED);
                due("call(" + call + ", ..)", desk.call(call, firstFor(call), 0), 31);
            }
        }
    }

    private static void answerOfNoCall() {
        for (int call = 0; call < 20; call++) {
            due("answer(" + call + ", ..)", new Desk().answer(call, 1), 1);
        }
        Desk desk = busyDesk();
        for (int call : NO_CALLS) {
            due("answer(" + call + ", ..)", desk.answer(call, 8), PostDesk2.NONE);
        }
        dueSame("answer of no call", desk, busyDesk());
    }

    private static void failsFromNowOn() {
        for (int call = 0; call < 20; call++) {
            for (int kind = 1; kind <= 3; kind++) {
                Desk desk = deskWithOneOfEach();
                desk.collect(1);
                desk.fails(call, 4 - kind);
                due("fails(" + call + ", " + kind + ")", desk.fails(call, kind), 1);
                due("not before it is called", desk.told(2), 0);
                for (int i = 1; i <= 10; i++) {
                    due("call(" + call + ", ..)", desk.call(call, firstFor(call), 0), PostDesk2.FAILED);
                    due("failed", desk.told(2), i);
                    due("by", desk.told(3), kind);
                }
                due("the one beside", desk.call((call + 1) % 20, firstFor(call + 1), 5), 6);
            }
        }
    }

    private static void failsNoMore() {
        for (int call = 0; call < 20; call++) {
            for (int kind = 0; kind <= 3; kind++) {
                Desk desk = deskWithOneOfEach();
                desk.answer(call, 60);
                desk.collect(1);
                desk.fails(call, kind);
                desk.fails((call + 1) % 20, 1);
                due("fails(" + call + ", 0)", desk.fails(call, 0), 1);
                due("the one beside fails still", desk.call((call + 1) % 20, firstFor(call + 1), 0), PostDesk2.FAILED);
                due("V is as it was", desk.call(call, firstFor(call), 0), 61);
            }
        }
    }

    private static void failsOfNoCall() {
        for (int call = 0; call < 20; call++) {
            for (int kind = 0; kind <= 3; kind++) {
                due("fails(" + call + ", " + kind + ")", new Desk().fails(call, kind), 1);
            }
        }
        Desk desk = busyDesk();
        for (int call : NO_CALLS) {
            for (int kind = 0; kind <= 3; kind++) {
                due("fails(" + call + ", " + kind + ")", desk.fails(call, kind), PostDesk2.NONE);
            }
            due("fails(" + call + ", 4)", desk.fails(call, 4), PostDesk2.NONE);
        }
        dueSame("fails of no call", desk, busyDesk());
    }

    private static void failsOfNoKind() {
        Desk desk = busyDesk();
        for (int kind : NO_FAILURES) {
            for (int call : new int[] {0, 3, 5, 9, 10, 14, 19}) {
                due("fails(" + call + ", " + kind + ")", desk.fails(call, kind), PostDesk2.NONE);
            }
        }
        dueSame("fails of no kind", desk, busyDesk());
    }

    private static void makeTellsTheNumber() {
        for (int kind = 0; kind < 10; kind++) {
            Desk desk = new Desk();
            due("the first", desk.make(kind), kind * 1000 + 1);
            due("it is there", desk.isThere(kind * 1000 + 1), true);
            due("the next is not", desk.isThere(kind * 1000 + 2), false);
            due("the second", desk.make(kind), kind * 1000 + 2);
            due("it is there", desk.isThere(kind * 1000 + 2), true);
            due("how many", desk.numbers(kind), 2);
        }
    }

    private static void makeOfNoKind() {
        Desk desk = busyDesk();
        for (int kind : NO_KINDS) {
            due("make(" + kind + ")", desk.make(kind), PostDesk2.NONE);
        }
        dueSame("make of no kind", desk, busyDesk());
    }

    private static void makeHasRoomFor99() {
        for (int kind = 0; kind < 10; kind++) {
            Desk desk = new Desk();
            for (int i = 1; i <= 99; i++) {
                due("the " + i + "th", desk.make(kind), kind * 1000 + i);
            }
            due("the 100th", desk.make(kind), PostDesk2.ROOM);
            due("the 101st", desk.make(kind), PostDesk2.ROOM);
            due("how many", desk.numbers(kind), 99);
            due("the 100th is not there", desk.isThere(kind * 1000 + 100), false);
            dueSame("make without room", desk, deskWith99(kind));
        }
    }

    private static void makeHasRoomByKind() {
        for (int kind = 0; kind < 10; kind++) {
            Desk desk = deskWith99(kind);
            for (int other = 0; other < 10; other++) {
                int want = other == kind ? PostDesk2.ROOM : other * 1000 + 1;
                due("make(" + other + ") with 99 of " + kind, desk.make(other), want);
            }
        }
    }

    // Promises 6 and 7.

    private static void callTakesAnyArgument() {
        for (int call = 0; call < 20; call++) {
            Desk desk = deskWithOneOfEach();
            for (long a : ANY_LONGS) {
                desk.collect(1);
                due("UNKNOWN, " + a, desk.call(call, firstFor(call) + 1, a), PostDesk2.UNKNOWN);
                due("OUTSIDE, " + a, desk.call(call + 20, firstFor(call), a), PostDesk2.OUTSIDE);
                due("answered, " + a, desk.call(call, firstFor(call), a), answerOf(0, a, 1));
                if (call >= 10) {
                    due("EMPTY, " + a, desk.call(call, firstFor(call), a), PostDesk2.EMPTY);
                }
                desk.fails(call, 1);
                desk.collect(1);
                due("FAILED, " + a, desk.call(call, firstFor(call), a), PostDesk2.FAILED);
                desk.fails(call, 0);
                desk.call(call, firstFor(call), a);
            }
        }
    }

    private static void callTakesAnyNumber() {
        for (int kind = 0; kind < 10; kind++) {
            Desk desk = deskWithOneOfEach();
            desk.collect(1);
            for (int number : noNumbersNear(kind)) {
                due("call(" + kind + ", " + number + ")", desk.call(kind, number, 0), PostDesk2.UNKNOWN);
                due("call(" + (kind + 10) + ", " + number + ")", desk.call(kind + 10, number, 0), PostDesk2.UNKNOWN);
                due("call(20, " + number + ")", desk.call(20, number, 0), PostDesk2.OUTSIDE);
            }
        }
    }

    private static void dueCounts(Desk desk, long answered, long refused, long failed) {
        due("answered", desk.told(0), answered);
        due("refused", desk.told(1), refused);
        due("failed", desk.told(2), failed);
    }

    private static void toldAnswered() {
        Desk desk = deskWithOneOfEach();
        dueCounts(desk, 0, 0, 0);
        for (int i = 1; i <= 20; i++) {
            desk.collect(i);
            desk.call(i - 1, firstFor(i - 1), i);
            dueCounts(desk, i, 0, 0);
        }
    }

    private static void toldRefused() {
        Desk desk = deskWithOneOfEach();
        desk.call(0, 2, 0);
        dueCounts(desk, 0, 1, 0);
        desk.call(0, 1001, 0);
        dueCounts(desk, 0, 2, 0);
        desk.call(10, 1, 0);
        dueCounts(desk, 0, 3, 0);
        desk.drop(1);
        desk.call(0, 1, 0);
        dueCounts(desk, 0, 4, 0);
        desk.call(19, LEAST, 0);
        dueCounts(desk, 0, 5, 0);
    }

    private static void toldCountsNoOutside() {
        Desk desk = busyDesk();
        for (int call : NO_CALLS) {
            desk.call(call, 1, 0);
            desk.call(call, 2, 0);
            dueCounts(desk, 1, 2, 1);
        }
        dueSame("OUTSIDE", desk, busyDesk());
    }

    private static void toldFailed() {
        Desk desk = deskWithOneOfEach();
        desk.collect(1);
        for (int i = 1; i <= 20; i++) {
            desk.fails(i - 1, 1 + i % 3);
            dueCounts(desk, 0, 0, i - 1);
            desk.call(i - 1, firstFor(i - 1), 0);
            dueCounts(desk, 0, 0, i);
        }
    }

    private static void dueLatest(Desk desk, long kind, long number, long call) {
        due("the latest failure's kind", desk.told(3), kind);
        due("the latest failure's number", desk.told(4), number);
        due("the latest failure's call", desk.told(5), call);
    }

    private static void toldLatestFailure() {
        for (int kind = 1; kind <= 3; kind++) {
            Desk desk = deskWithOneOfEach();
            desk.make(0);
            desk.make(9);
            desk.collect(1);
            for (int call : new int[] {19, 0, 10, 9}) {
                desk.fails(call, kind);
                desk.call(call, firstFor(call), 0);
                dueLatest(desk, kind, firstFor(call), call);
                desk.call(call, firstFor(call) + 1, 0);
                dueLatest(desk, kind, firstFor(call) + 1, call);
            }
            desk.fails(0, 4 - kind);
            dueLatest(desk, kind, 9002, 9);
            desk.call(0, 1, 0);
            dueLatest(desk, 4 - kind, 1, 0);
        }
        Desk last = deskWith99(9);
        last.fails(9, 3);
        last.call(9, 9099, 0);
        dueLatest(last, 3, 9099, 9);
    }

    private static void toldLatestFailureStays() {
        Desk desk = busyDesk();
        dueLatest(desk, 2, 4003, 14);
        desk.call(0, 1, 0);
        dueLatest(desk, 2, 4003, 14);
        desk.call(10, 1, 0);
        desk.call(0, 2, 0);
        desk.call(20, 1, 0);
        dueLatest(desk, 2, 4003, 14);
        desk.fails(14, 1);
        desk.drop(4003);
        dueLatest(desk, 2, 4003, 14);
        desk.answer(14, 1);
        desk.again(3, 3001, 0);
        desk.log(3, 3001, 0);
        dueLatest(desk, 2, 4003, 14);
    }

    private static void toldZeroWithoutFailure() {
        Desk desk = deskWithOneOfEach();
        dueLatest(desk, 0, 0, 0);
        desk.call(5, 5001, 0);
        dueLatest(desk, 0, 0, 0);
        desk.call(15, 5001, 0);
        desk.call(15, 5002, 0);
        desk.call(15, 6001, 0);
        dueLatest(desk, 0, 0, 0);
        desk.call(-1, 5001, 0);
        desk.call(20, 5001, 0);
        dueLatest(desk, 0, 0, 0);
        desk.fails(5, 3);
        desk.fails(15, 3);
        dueLatest(desk, 0, 0, 0);
        desk.again(5, 5001, 0);
        desk.log(5, 5001, 0);
        desk.call(5, 5002, 0);
        desk.call(15, 5001, 0);
        dueLatest(desk, 0, 0, 0);
    }

    private static void toldCollected() {
        Desk desk = deskWithOneOfEach();
        due("nothing", desk.told(6), 0);
        for (int i = 1; i <= 40; i++) {
            desk.collect(0);
            due("how many", desk.told(6), i);
        }
        desk.collect(0);
        due("without room", desk.told(6), 40);
        desk.call(10, 1, 0);
        due("behind an answer", desk.told(6), 0);
    }

    private static void toldZeroForAnotherWhat() {
        Desk desk = busyDesk();
        long[] told = busyTold();
        for (int what = 0; what < 8; what++) {
            due("told(" + what + ")", desk.told(what), told[what]);
        }
        for (int what : NO_WHATS) {
            due("told(" + what + ")", desk.told(what), 0);
            due("told(" + what + ") of a new desk", new Desk().told(what), 0);
        }
    }

    private static void toldChangesNothing() {
        Desk desk = busyDesk();
        for (int what = 0; what < 8; what++) {
            desk.told(what);
        }
        for (int what : NO_WHATS) {
            desk.told(what);
        }
        dueSame("told", desk, busyDesk());
    }

    // Promises 8 to 10.

    private static void dropTakesOneThing() {
        for (int kind = 0; kind < 10; kind++) {
            for (int count : new int[] {1, 2, 50, 98, 99}) {
                Desk desk = deskWith99(kind);
                desk.make((kind + 1) % 10);
                due("drop", desk.drop(kind * 1000 + count), true);
                for (int other = 1; other <= 99; other++) {
                    due("isThere(" + (kind * 1000 + other) + ")", desk.isThere(kind * 1000 + other), other != count);
                }
                due("how many", desk.numbers(kind), 98);
                due("how many of the next kind", desk.numbers((kind + 1) % 10), 1);
                due("the next kind's", desk.isThere((kind + 1) % 10 * 1000 + 1), true);
            }
        }
    }

    private static void dropIsTrueOnce() {
        for (int kind = 0; kind < 10; kind++) {
            Desk desk = new Desk();
            int first = kind * 1000 + 1;
            due("before it is made", desk.drop(first), false);
            desk.make(kind);
            due("there", desk.drop(first), true);
            due("no more", desk.drop(first), false);
            due("how many", desk.numbers(kind), 0);
            desk.make(kind);
            due("with the next made", desk.drop(first), false);
            due("the next", desk.drop(first + 1), true);
        }
    }

    private static void dropOfAnyNumber() {
        for (int kind = 0; kind < 10; kind++) {
            Desk desk = busyDesk();
            for (int number : noNumbersNear(kind)) {
                due("drop(" + number + ")", desk.drop(number), false);
            }
            due("drop of the dropped", desk.drop(kind * 1000 + 2), false);
            due("drop of the next", desk.drop(kind * 1000 + 4), false);
            due("drop of the last", desk.drop(kind * 1000 + 99), false);
            dueSame("drop of what is not there", desk, busyDesk());
        }
    }

    private static void numbersFrom0To99() {
        for (int kind = 0; kind < 10; kind++) {
            Desk desk = new Desk();
            due("none", desk.numbers(kind), 0);
            for (int i = 1; i <= 99; i++) {
                desk.make(kind);
                due("made", desk.numbers(kind), i);
            }
            desk.make(kind);
            due("without room", desk.numbers(kind), 99);
            for (int i = 1; i <= 99; i++) {
                desk.drop(kind * 1000 + i);
                due("dropped", desk.numbers(kind), 99 - i);
            }
            desk.drop(kind * 1000 + 99);
            due("dropped again", desk.numbers(kind), 0);
            for (int other = 0; other < 10; other++) {
                due("numbers(" + other + ")", desk.numbers(other), 0);
            }
        }
    }

    private static void numbersOfNoKind() {
        Desk desk = busyDesk();
        for (int kind : NO_KINDS) {
            due("numbers(" + kind + ")", desk.numbers(kind), PostDesk2.NONE);
        }
        for (int kind = 0; kind < 10; kind++) {
            due("numbers(" + kind + ")", desk.numbers(kind), 2);
        }
        dueSame("numbers", desk, busyDesk());
    }

    private static void isThereFirstAndLast() {
        for (int kind = 0; kind < 10; kind++) {
            Desk desk = new Desk();
            for (int i = 1; i <= 99; i++) {
                due("before it is made", desk.isThere(kind * 1000 + i), false);
                desk.make(kind);
                due("made", desk.isThere(kind * 1000 + i), true);
            }
            due("the first", desk.isThere(kind * 1000 + 1), true);
            due("before the first", desk.isThere(kind * 1000), false);
            due("behind the last", desk.isThere(kind * 1000 + 100), false);
            desk.drop(kind * 1000 + 1);
            desk.drop(kind * 1000 + 99);
            due("the first, dropped", desk.isThere(kind * 1000 + 1), false);
            due("the last, dropped", desk.isThere(kind * 1000 + 99), false);
            due("the second", desk.isThere(kind * 1000 + 2), true);
            due("the last but one", desk.isThere(kind * 1000 + 98), true);
        }
    }

    private static void isThereOfAnyNumber() {
        for (int from = -12000; from < 12000; from += 400) {
            Desk desk = busyDesk();
            for (int number = from; number < from + 400; number++) {
                int count = number % 1000;
                boolean want = number > 0 && number < 10000 && (count == 1 || count == 3);
                due("isThere(" + number + ")", desk.isThere(number), want);
            }
        }
        for (int kind = 0; kind < 10; kind++) {
            Desk desk = deskWith99(kind);
            for (int number : noNumbersNear(kind)) {
                due("isThere(" + number + ")", desk.isThere(number), false);
            }
        }
    }

    private static void isThereChangesNothing() {
        Desk desk = busyDesk();
        for (int kind = 0; kind < 10; kind++) {
            for (int count = 0; count <= 4; count++) {
                desk.isThere(kind * 1000 + count);
            }
        }
        desk.isThere(LEAST);
        desk.isThere(MOST);
        dueSame("isThere", desk, busyDesk());
    }

    // Promises 11 and 12.

    /** A call of each outcome on a busy desk, but for EMPTY: there are numbers collected on it. */
    private static final int[][] ASKED = {
        {0, 1}, {0, 3}, {19, 9001}, {10, 3}, {-1, 1}, {20, 1}, {0, 2}, {0, 4}, {10, 1001}, {3, 3001}, {14, 4001},
        {5, 5003}
    };

    private static void againTellsAsCall() {
        long[] due = {
            1 + 5 + BUSY_DIGEST, 1 + 5 + BUSY_DIGEST, 1901 + 5 + BUSY_DIGEST, 1001 + 5 + BUSY_DIGEST,
            PostDesk2.OUTSIDE, PostDesk2.OUTSIDE, PostDesk2.UNKNOWN, PostDesk2.UNKNOWN, PostDesk2.UNKNOWN,
            PostDesk2.FAILED, PostDesk2.FAILED, PostDesk2.FAILED
        };
        for (int i = 0; i < ASKED.length; i++) {
            int call = ASKED[i][0];
            int number = ASKED[i][1];
            Desk desk = busyDesk();
            due("again(" + call + ", " + number + ")", desk.again(call, number, 5), due[i]);
            due("call(" + call + ", " + number + ")", desk.call(call, number, 5), due[i]);
        }
        for (int call = 10; call < 20; call++) {
            due("again with nothing", emptiedDesk().again(call, firstFor(call), 5), PostDesk2.EMPTY);
        }
    }

    private static void againOfAny() {
        for (int call : NO_CALLS) {
            due("again(" + call + ", ..)", busyDesk().again(call, 1, 0), PostDesk2.OUTSIDE);
        }
        for (int kind = 0; kind < 10; kind++) {
            Desk desk = busyDesk();
            for (int number : noNumbersNear(kind)) {
                due("again(" + kind + ", " + number + ")", desk.again(kind, number, 0), PostDesk2.UNKNOWN);
            }
        }
        Desk desk = busyDesk();
        for (long a : ANY_LONGS) {
            due("again(19, 9001, " + a + ")", desk.again(19, 9001, a), answerOf(1901, a, 11, -12));
        }
    }

    private static void againChangesNothing() {
        for (int[] asked : ASKED) {
            Desk desk = busyDesk();
            long first = desk.again(asked[0], asked[1], 5);
            due("again(" + asked[0] + ", " + asked[1] + ") once more", desk.again(asked[0], asked[1], 5), first);
            dueSame("again(" + asked[0] + ", " + asked[1] + ")", desk, busyDesk());
        }
        Desk emptied = emptiedDesk();
        emptied.again(11, 1001, 5);
        dueSame("again with nothing collected", emptied, emptiedDesk());
        Desk fresh = new Desk();
        fresh.again(0, 1, 5);
        dueSame("again on a new desk", fresh, new Desk());
        Desk full = fullDesk();
        full.again(10, 1, 5);
        dueSame("again with 40 collected", full, fullDesk());
    }

    private static void logTellsAsCall() {
        for (int[] asked : ASKED) {
            int call = asked[0];
            int number = asked[1];
            Desk desk = busyDesk();
            long due = BUSY_LOG;
            if (call == 3 || call == 14 || call == 5) {
                due = loggedFailure(BUSY_LOG, call, number, call == 3 ? 1 : call == 14 ? 2 : 3);
            } else if (call >= 0 && call < 20) {
                boolean isKnown = number / 1000 == call % 10 && (number % 1000 == 1 || number % 1000 == 3);
                due = isKnown ? loggedAnswer(BUSY_LOG, call, number, 100 * call + 1 + 5 + BUSY_DIGEST)
                    : loggedRefusal(BUSY_LOG, call, number);
            }
            due("log(" + call + ", " + number + ")", desk.log(call, number, 5), due);
            desk.call(call, number, 5);
            due("L behind call(" + call + ", " + number + ")", desk.told(7), due);
        }
        long logged = loggedAnswer(BUSY_LOG, 0, 1, 1 + BUSY_DIGEST);
        for (int call = 10; call < 20; call++) {
            due("log with nothing", emptiedDesk().log(call, firstFor(call), 5),
                loggedRefusal(logged, call, firstFor(call)));
        }
    }

    private static void logOfAny() {
        for (int call : NO_CALLS) {
            due("log(" + call + ", ..)", busyDesk().log(call, 1, 0), BUSY_LOG);
            due("log(" + call + ", ..)", busyDesk().log(call, MOST, LONG_MOST), BUSY_LOG);
        }
        for (int kind = 0; kind < 10; kind++) {
            Desk desk = busyDesk();
            for (int number : noNumbersNear(kind)) {
                due("log(" + kind + ", " + number + ")", desk.log(kind, number, 0),
                    loggedRefusal(BUSY_LOG, kind, number));
            }
        }
        Desk desk = busyDesk();
        for (long a : ANY_LONGS) {
            due("log(19, 9001, " + a + ")", desk.log(19, 9001, a),
                loggedAnswer(BUSY_LOG, 19, 9001, answerOf(1901, a, 11, -12)));
        }
    }

    private static void logChangesNothing() {
        for (int[] asked : ASKED) {
            Desk desk = busyDesk();
            long first = desk.log(asked[0], asked[1], 5);
            due("log(" + asked[0] + ", " + asked[1] + ") once more", desk.log(asked[0], asked[1], 5), first);
            dueSame("log(" + asked[0] + ", " + asked[1] + ")", desk, busyDesk());
        }
        Desk emptied = emptiedDesk();
        emptied.log(11, 1001, 5);
        dueSame("log with nothing collected", emptied, emptiedDesk());
        Desk fresh = new Desk();
        fresh.log(0, 1, 5);
        dueSame("log on a new desk", fresh, new Desk());
        Desk full = fullDesk();
        full.log(10, 1, 5);
        dueSame("log with 40 collected", full, fullDesk());
    }

    // What acts other than a call leave behind.

    private static void leftBehindCollect() {
        for (long v : ANY_LONGS) {
            Desk desk = busyDesk();
            Left left = new Left();
            desk.collect(v);
            left.told[6] = 3;
            left.digest = answerOf(0, 0, 11, -12, v);
            dueLeft("collect(" + v + ")", desk, left);
        }
        Desk emptied = emptiedDesk();
        Left left = emptiedLeft();
        emptied.collect(0);
        left.told[6] = 1;
        dueLeft("collect(0) with nothing collected", emptied, left);
    }

    private static void leftBehindAnswer() {
        for (int call = 0; call < 20; call++) {
            for (long v : new long[] {0, 100 * call + 1, LONG_LEAST, PostDesk2.EMPTY, PostDesk2.FAILED}) {
                Desk desk = busyDesk();
                Left left = new Left();
                desk.answer(call, v);
                left.values[call] = v;
                left.failures[call] = 0;
                dueLeft("answer(" + call + ", " + v + ")", desk, left);
            }
        }
    }

    private static void leftBehindFails() {
        for (int call = 0; call < 20; call++) {
            for (int kind = 0; kind <= 3; kind++) {
                Desk desk = busyDesk();
                Left left = new Left();
                desk.fails(call, kind);
                left.failures[call] = kind;
                dueLeft("fails(" + call + ", " + kind + ")", desk, left);
            }
        }
    }

    private static void leftBehindMake() {
        for (int kind = 0; kind < 10; kind++) {
            Desk desk = busyDesk();
            Left left = new Left();
            desk.make(kind);
            left.things.add(kind * 1000 + 4);
            dueLeft("make(" + kind + ")", desk, left);
        }
    }

    private static void leftBehindDrop() {
        for (int kind = 0; kind < 10; kind++) {
            for (int count = 1; count <= 3; count += 2) {
                Desk desk = busyDesk();
                Left left = new Left();
                desk.drop(kind * 1000 + count);
                left.things.remove(kind * 1000 + count);
                dueLeft("drop(" + (kind * 1000 + count) + ")", desk, left);
            }
        }
        // The thing of the latest failure: what is told of that stays.
        Desk desk = busyDesk();
        desk.drop(4001);
        desk.drop(4003);
        Left left = new Left();
        left.things.remove(4001);
        left.things.remove(4003);
        dueLeft("drop of both", desk, left);
    }

    private static void leftBehindRefusedActs() {
        Desk desk = busyDesk();
        desk.answer(-1, 8);
        desk.answer(20, 8);
        desk.fails(-1, 0);
        desk.fails(20, 1);
        desk.fails(3, -1);
        desk.fails(3, 4);
        desk.make(-1);
        desk.make(10);
        desk.drop(2);
        desk.drop(4);
        desk.drop(10001);
        desk.drop(-1);
        dueLeft("refused acts", desk, new Left());
        Desk full = fullDesk();
        Left left = new Left();
        for (int i = 3; i <= 40; i++) {
            left.digest = 31 * left.digest + i;
        }
        left.told[6] = 40;
        full.collect(8);
        dueLeft("collect without room", full, left);
    }
}

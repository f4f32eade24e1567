import java.lang.reflect.Constructor;
import java.lang.reflect.Field;
import java.lang.reflect.Method;
import java.lang.reflect.Modifier;
import java.util.TreeSet;

/** One test for each promise: ordinary inputs, the edges that the document names, and wrong inputs. */
public final class PostDesk2Promises {
    private static final int[] NO_CALLS = {-1, 20, 21, 30, Integer.MAX_VALUE, Integer.MIN_VALUE};
    private static final int[] NO_KINDS = {-1, 10, 11, 20, Integer.MAX_VALUE, Integer.MIN_VALUE};
    private static final int[] NO_NUMBERS = {
        0, 1, 99, 100, 999, 1000, 1100, 9000, 9100, 10001, 11001, -1, -999, -1001, -9001,
        Integer.MAX_VALUE, Integer.MIN_VALUE, Integer.MIN_VALUE + 1
    };

    private static int wrong = 0;

    private static void due(String what, long got, long want) {
        if (got != want) {
            wrong++;
            System.out.println(what + ": answered " + got + ", due is " + want);
        }
    }

    private static void due(String what, boolean got, boolean want) {
        due(what, got ? 1 : 0, want ? 1 : 0);
    }

    /** What told(0) .. told(6) are due to answer. */
    private static void dueTold(String what, PostDesk2 desk, long... want) {
        for (int i = 0; i < want.length; i++) {
            due(what + ", told(" + i + ")", desk.told(i), want[i]);
        }
    }

    private static long entry(long logged, long number, long call) {
        return 17 * (1000003 * logged + 32 * number + call);
    }

    private static PostDesk2 deskWithOneOfEach() {
        PostDesk2 desk = new PostDesk2();
        for (int kind = 0; kind < 10; kind++) {
            desk.make(kind);
        }
        return desk;
    }

    public static void main(String[] args) {
        face();
        promise1NewObject();
        promise2Collect();
        promise3Answer();
        promise4Fails();
        promise5Make();
        promise6CallGoesToItsPart();
        promise6CallIsRefusedInOrder();
        promise6CallTakesWhatIsCollected();
        promise6CallFails();
        promise7Told();
        promise7ToldLog();
        promise7AnswersThatLookLikeCodes();
        promise8Drop();
        promise9Numbers();
        promise10IsThere();
        promise11Again();
        promise12Log();
        System.out.println(wrong == 0 ? "all promises are kept" : wrong + " answers are not as due");
        if (wrong != 0) {
            System.exit(1);
        }
    }

    private static void face() {
        TreeSet<String> seen = new TreeSet<>();
        for (Method m : PostDesk2.class.getDeclaredMethods()) {
            if (!Modifier.isPrivate(m.getModifiers())) {
                seen.add(m.toString());
            }
        }
        for (Field f : PostDesk2.class.getDeclaredFields()) {
            if (!Modifier.isPrivate(f.getModifiers())) {
                seen.add(f.toString());
            }
        }
        for (Constructor<?> c : PostDesk2.class.getDeclaredConstructors()) {
            seen.add(c.toString());
        }
        TreeSet<String> want = new TreeSet<>();
        for (String m : new String[] {
            "int PostDesk2.collect(long)", "int PostDesk2.answer(int,long)", "int PostDesk2.fails(int,int)",
            "int PostDesk2.make(int)", "long PostDesk2.call(int,int,long)", "long PostDesk2.told(int)",
            "boolean PostDesk2.drop(int)", "int PostDesk2.numbers(int)", "boolean PostDesk2.isThere(int)",
            "long PostDesk2.again(int,int,long)", "long PostDesk2.log(int,int,long)", "PostDesk2()",
            "static final long PostDesk2.UNKNOWN", "static final long PostDesk2.OUTSIDE",
            "static final long PostDesk2.EMPTY", "static final long PostDesk2.FAILED",
            "static final int PostDesk2.NONE", "static final int PostDesk2.ROOM"}) {
            want.add("public " + m);
        }
        if (!seen.equals(want)) {
            wrong++;
            System.out.println("the face is " + seen + ", due is " + want);
        }
        due("the class is public", Modifier.isPublic(PostDesk2.class.getModifiers()), true);
        due("the class is final", Modifier.isFinal(PostDesk2.class.getModifiers()), true);
        due("UNKNOWN", PostDesk2.UNKNOWN, -9000000000000000011L);
        due("OUTSIDE", PostDesk2.OUTSIDE, -9000000000000000012L);
        due("EMPTY", PostDesk2.EMPTY, -9000000000000000013L);
        due("FAILED", PostDesk2.FAILED, -9000000000000000020L);
        due("NONE", PostDesk2.NONE, -1);
        due("ROOM", PostDesk2.ROOM, -14);
    }

    private static void promise1NewObject() {
        PostDesk2 desk = new PostDesk2();
        dueTold("1: new", desk, 0, 0, 0, 0, 0, 0, 0, 7);
        for (int kind = 0; kind < 10; kind++) {
            due("1: numbers of a new desk", desk.numbers(kind), 0);
            due("1: isThere on a new desk", desk.isThere(kind * 1000 + 1), false);
        }
        for (int call = 0; call < 10; call++) {
            desk.make(call);
            due("1: a part answers 0", desk.call(call, call * 1000 + 1, 0), 0);
        }
        for (int call = 10; call < 20; call++) {
            desk.collect(0);
            due("1: a part that wants something answers 0", desk.call(call, (call - 10) * 1000 + 1, 0), 0);
        }
        PostDesk2 other = new PostDesk2();
        dueTold("1: desks share nothing", other, 0, 0, 0, 0, 0, 0, 0, 7);
        due("1: desks share no things", other.isThere(1), false);
    }

    private static void promise2Collect() {
        PostDesk2 desk = new PostDesk2();
        desk.make(0);
        long digest = 0;
        for (int i = 1; i <= 40; i++) {
            long v = Long.MAX_VALUE / i - 3L * i;
            due("2: collect", desk.collect(v), i);
            due("2: how many", desk.told(6), i);
            digest = 31 * digest + v;
        }
        due("2: the 41st", desk.collect(5), PostDesk2.ROOM);
        due("2: the 42nd", desk.collect(Long.MIN_VALUE), PostDesk2.ROOM);
        due("2: still 40", desk.told(6), 40);
        due("2: those refused are not in the digest", desk.call(0, 1, 0), digest);
        due("2: room again behind an answer", desk.collect(Long.MIN_VALUE), 1);
        due("2: the digest begins anew", desk.call(10, 1, 0), Long.MIN_VALUE);
    }

    private static void promise3Answer() {
        PostDesk2 desk = deskWithOneOfEach();
        for (int call = 0; call < 20; call++) {
            due("3: answer", desk.answer(call, 100 * call + 3), 1);
        }
        for (int call = 0; call < 20; call++) {
            desk.collect(7);
            due("3: each part has its own V", desk.call(call, call % 10 * 1000 + 1, 10), 100 * call + 3 + 10 + 7);
        }
        due("3: V again", desk.answer(4, Long.MIN_VALUE), 1);
        due("3: the newer V counts", desk.call(4, 4001, -1), Long.MAX_VALUE);
        desk.fails(4, 2);
        due("3: a failing part", desk.call(4, 4001, 0), PostDesk2.FAILED);
        due("3: answer ends the failing", desk.answer(4, 6), 1);
        due("3: it answers", desk.call(4, 4001, 0), 6);
        for (int call : NO_CALLS) {
            due("3: answer(" + call + ")", desk.answer(call, 1), PostDesk2.NONE);
        }
        due("3: nothing changed", desk.call(0, 1, 0), 3);
    }

    private static void promise4Fails() {
        for (int call = 0; call < 20; call++) {
            PostDesk2 desk = deskWithOneOfEach();
            desk.answer(call, 50);
            int number = call % 10 * 1000 + 1;
            for (int kind = 1; kind <= 3; kind++) {
                desk.collect(0);
                due("4: fails", desk.fails(call, kind), 1);
                due("4: it fails", desk.call(call, number, 0), PostDesk2.FAILED);
                due("4: it fails from now on", desk.call(call, number, 0), PostDesk2.FAILED);
                due("4: by its kind", desk.told(3), kind);
                due("4: another part does not", desk.again((call + 1) % 10, (call + 1) % 10 * 1000 + 1, 4), 4);
                for (int wrongKind : new int[] {-1, 4, 5, Integer.MAX_VALUE, Integer.MIN_VALUE}) {
                    due("4: fails(.., " + wrongKind + ")", desk.fails(call, wrongKind), PostDesk2.NONE);
                }
                due("4: it still fails", desk.again(call, number, 0), PostDesk2.FAILED);
            }
            due("4: no more", desk.fails(call, 0), 1);
            due("4: V stayed", desk.call(call, number, 1), 51);
        }
        PostDesk2 desk = deskWithOneOfEach();
        for (int call : NO_CALLS) {
            for (int kind = 0; kind <= 3; kind++) {
                due("4: fails(" + call + ", ..)", desk.fails(call, kind), PostDesk2.NONE);
            }
        }
        due("4: nothing changed", desk.call(0, 1, 0), 0);
    }

    private static void promise5Make() {
        for (int kind = 0; kind < 10; kind++) {
            PostDesk2 desk = new PostDesk2();
            for (int i = 1; i <= 99; i++) {
                due("5: make", desk.make(kind), kind * 1000 + i);
                due("5: it is there", desk.isThere(kind * 1000 + i), true);
            }
            due("5: the 100th", desk.make(kind), PostDesk2.ROOM);
            desk.drop(kind * 1000 + 99);
            desk.drop(kind * 1000 + 1);
            due("5: drops make no room", desk.make(kind), PostDesk2.ROOM);
            due("5: the number did not come again", desk.isThere(kind * 1000 + 99), false);
            due("5: how many", desk.numbers(kind), 97);
            due("5: another kind has its own numbers", desk.make((kind + 1) % 10), (kind + 1) % 10 * 1000 + 1);
        }
        PostDesk2 desk = new PostDesk2();
        desk.make(6);
        desk.drop(6001);
        due("5: a dropped number never comes again", desk.make(6), 6002);
        for (int kind : NO_KINDS) {
            due("5: make(" + kind + ")", desk.make(kind), PostDesk2.NONE);
        }
    }

    private static void promise6CallGoesToItsPart() {
        for (int call = 0; call < 20; call++) {
            PostDesk2 desk = deskWithOneOfEach();
            for (int kind = 0; kind < 10; kind++) {
                desk.collect(2);
                long want = call % 10 == kind ? 12 : PostDesk2.UNKNOWN;
                due("6: call(" + call + ") of a thing of kind " + kind, desk.call(call, kind * 1000 + 1, 10), want);
                if (want == PostDesk2.UNKNOWN) {
                    due("6: a refused call leaves what is collected", desk.told(6) > 0, true);
                    desk.call(kind, kind * 1000 + 1, 0);
                }
            }
        }
        PostDesk2 desk = deskWithOneOfEach();
        desk.answer(2, Long.MAX_VALUE);
        desk.collect(Long.MAX_VALUE);
        due("6: answers wrap", desk.call(2, 2001, Long.MAX_VALUE), Long.MAX_VALUE - 2);
    }

    private static void promise6CallIsRefusedInOrder() {
        PostDesk2 desk = deskWithOneOfEach();
        desk.fails(13, 1);
        for (int call : NO_CALLS) {
            due("6: OUTSIDE goes first", desk.call(call, 3001, 0), PostDesk2.OUTSIDE);
            due("6: OUTSIDE before UNKNOWN", desk.call(call, 3099, 0), PostDesk2.OUTSIDE);
        }
        for (int number : NO_NUMBERS) {
            due("6: UNKNOWN before EMPTY", desk.call(13, number, 0), PostDesk2.UNKNOWN);
        }
        due("6: not made yet", desk.call(13, 3002, 0), PostDesk2.UNKNOWN);
        due("6: another kind", desk.call(13, 4001, 0), PostDesk2.UNKNOWN);
        due("6: EMPTY before FAILED", desk.call(13, 3001, 0), PostDesk2.EMPTY);
        desk.collect(1);
        due("6: FAILED", desk.call(13, 3001, 0), PostDesk2.FAILED);
        due("6: UNKNOWN with something collected", desk.call(13, 3002, 0), PostDesk2.UNKNOWN);
        desk.drop(3001);
        due("6: dropped", desk.call(13, 3001, 0), PostDesk2.UNKNOWN);
    }

    private static void promise6CallTakesWhatIsCollected() {
        PostDesk2 desk = deskWithOneOfEach();
        for (int call = 0; call < 20; call++) {
            long want = call < 10 ? 1 : PostDesk2.EMPTY;
            due("6: call(" + call + ") with nothing collected", desk.call(call, call % 10 * 1000 + 1, 1), want);
        }
        desk.collect(4);
        desk.collect(-7);
        due("6: the digest goes by order", desk.call(3, 3001, 1), 31 * 4 - 7 + 1);
        due("6: what was collected is gone", desk.told(6), 0);
        due("6: and nothing is wanted", desk.call(3, 3001, 1), 1);
        due("6: EMPTY behind it", desk.call(13, 3001, 1), PostDesk2.EMPTY);
        desk.collect(-7);
        desk.collect(4);
        due("6: the other order", desk.call(13, 3001, 1), 31 * -7 + 4 + 1);
        desk.collect(0);
        due("6: a 0 is collected too", desk.call(13, 3001, 1), 1);
        desk.collect(5);
        desk.call(20, 3001, 0);
        desk.call(3, 4001, 0);
        due("6: it stays behind what is refused", desk.call(3, 3001, 0), 5);
    }

    private static void promise6CallFails() {
        PostDesk2 desk = deskWithOneOfEach();
        desk.collect(3);
        desk.collect(9);
        desk.fails(5, 1);
        due("6: FAILED", desk.call(5, 5001, 0), PostDesk2.FAILED);
        due("6: what is collected is still there", desk.told(6), 2);
        desk.fails(5, 0);
        due("6: with its digest", desk.call(5, 5001, 0), 31 * 3 + 9);
        desk.fails(5, 3);
        due("6: fails with nothing collected", desk.call(5, 5001, 0), PostDesk2.FAILED);
    }

    private static void promise7Told() {
        PostDesk2 desk = deskWithOneOfEach();
        desk.make(8);
        desk.call(8, 8001, 1);
        desk.call(8, 8002, 1);
        desk.call(8, 8003, 1);
        desk.call(18, 8001, 1);
        desk.call(7, 8001, 1);
        desk.call(20, 8001, 1);
        desk.call(-1, 8001, 1);
        desk.collect(6);
        dueTold("7: before a failure", desk, 2, 3, 0, 0, 0, 0, 1);
        desk.fails(18, 2);
        desk.call(18, 8002, 1);
        dueTold("7: a failure", desk, 2, 3, 1, 2, 8002, 18, 1);
        desk.fails(0, 3);
        desk.call(0, 1, 1);
        dueTold("7: the latest failure", desk, 2, 3, 2, 3, 1, 0, 1);
        desk.fails(0, 1);
        desk.drop(1);
        desk.call(0, 1, 1);
        desk.answer(18, 0);
        desk.call(18, 8002, 1);
        dueTold("7: the latest failure stays", desk, 3, 4, 2, 3, 1, 0, 0);
        for (int what : new int[] {-1, 8, 9, 100, Integer.MAX_VALUE, Integer.MIN_VALUE}) {
            due("7: told(" + what + ")", desk.told(what), 0);
        }
    }

    private static void promise7ToldLog() {
        PostDesk2 desk = deskWithOneOfEach();
        long logged = 7;
        due("7: L of things made", desk.told(7), logged);
        desk.call(4, 4001, 11);
        logged = entry(logged, 4001, 4) + 11;
        due("7: L of an answer", desk.told(7), logged);
        for (int number : NO_NUMBERS) {
            desk.call(14, number, 11);
            logged = entry(logged, number, 14) - 1;
            due("7: L of UNKNOWN " + number, desk.told(7), logged);
        }
        desk.call(14, 4001, 11);
        logged = entry(logged, 4001, 14) - 1;
        due("7: L of EMPTY", desk.told(7), logged);
        for (int kind = 1; kind <= 3; kind++) {
            desk.fails(4, kind);
            desk.call(4, 4001, 11);
            logged = entry(logged, 4001, 4) - 1 - kind;
            due("7: L of a failure", desk.told(7), logged);
        }
        for (int call : NO_CALLS) {
            desk.call(call, 4001, 11);
            due("7: L of OUTSIDE", desk.told(7), logged);
        }
        desk.collect(Long.MIN_VALUE);
        desk.call(14, 4001, -1);
        logged = entry(logged, 4001, 14) + Long.MAX_VALUE;
        due("7: L of an answer that wraps", desk.told(7), logged);
    }

    private static void promise7AnswersThatLookLikeCodes() {
        PostDesk2 desk = deskWithOneOfEach();
        long logged = 7;
        long answered = 0;
        for (long code : new long[] {PostDesk2.UNKNOWN, PostDesk2.OUTSIDE, PostDesk2.EMPTY, PostDesk2.FAILED, -1, 0}) {
            desk.collect(0);
            desk.answer(11, code);
            logged = entry(logged, 1001, 11) + code;
            answered++;
            due("11: an answer like a code", desk.again(11, 1001, 0), code);
            due("12: an answer like a code", desk.log(11, 1001, 0), logged);
            due("6: an answer like a code", desk.call(11, 1001, 0), code);
            dueTold("7: an answer like a code", desk, answered, 0, 0, 0, 0, 0, 0, logged);
        }
    }

    private static void promise8Drop() {
        PostDesk2 desk = new PostDesk2();
        for (int number : NO_NUMBERS) {
            due("8: drop(" + number + ") of nothing", desk.drop(number), false);
        }
        for (int i = 0; i < 99; i++) {
            desk.make(9);
        }
        due("8: drop", desk.drop(9001), true);
        due("8: again", desk.drop(9001), false);
        due("8: the last", desk.drop(9099), true);
        due("8: behind the last", desk.drop(9100), false);
        due("8: it is gone", desk.isThere(9099), false);
        due("8: its neighbour stays", desk.isThere(9098), true);
        due("8: how many", desk.numbers(9), 97);
        due("8: a call of it", desk.call(9, 9099, 0), PostDesk2.UNKNOWN);
        PostDesk2 unmade = new PostDesk2();
        due("8: not made yet", unmade.drop(2001), false);
        due("8: it is made then", unmade.make(2), 2001);
        due("8: and there", unmade.isThere(2001), true);
    }

    private static void promise9Numbers() {
        PostDesk2 desk = new PostDesk2();
        for (int kind = 0; kind < 10; kind++) {
            for (int i = 0; i <= kind; i++) {
                desk.make(kind);
            }
            desk.drop(kind * 1000 + 1);
            desk.drop(kind * 1000 + 1);
            desk.drop(kind * 1000 + 99);
        }
        for (int kind = 0; kind < 10; kind++) {
            due("9: numbers(" + kind + ")", desk.numbers(kind), kind);
        }
        for (int kind : NO_KINDS) {
            due("9: numbers(" + kind + ")", desk.numbers(kind), PostDesk2.NONE);
        }
    }

    private static void promise10IsThere() {
        // A desk for each 400 numbers: what it answers behind its 512th call is free.
        for (int from = -12000; from < 12000; from += 400) {
            PostDesk2 desk = deskWithTheFirstAndThird();
            for (int number = from; number < from + 400; number++) {
                int count = number % 1000;
                boolean want = number > 0 && number < 10000 && (count == 1 || count == 3);
                due("10: isThere(" + number + ")", desk.isThere(number), want);
            }
        }
        PostDesk2 desk = deskWithTheFirstAndThird();
        due("10: the greatest", desk.isThere(Integer.MAX_VALUE), false);
        due("10: the least", desk.isThere(Integer.MIN_VALUE), false);
    }

    private static PostDesk2 deskWithTheFirstAndThird() {
        PostDesk2 desk = new PostDesk2();
        for (int kind = 0; kind < 10; kind++) {
            desk.make(kind);
            desk.make(kind);
            desk.make(kind);
            desk.drop(kind * 1000 + 2);
        }
        return desk;
    }

    private static void promise11Again() {
        PostDesk2 desk = deskWithOneOfEach();
        desk.answer(16, 40);
        desk.collect(2);
        long logged = desk.told(7);
        for (int i = 0; i < 3; i++) {
            due("11: an answer", desk.again(16, 6001, 1), 43);
            due("11: OUTSIDE", desk.again(20, 6001, 1), PostDesk2.OUTSIDE);
            due("11: OUTSIDE below", desk.again(-1, 6001, 1), PostDesk2.OUTSIDE);
            due("11: UNKNOWN", desk.again(16, 6002, 1), PostDesk2.UNKNOWN);
            due("11: another kind", desk.again(16, 7001, 1), PostDesk2.UNKNOWN);
            desk.fails(6, 1 + i);
            due("11: FAILED", desk.again(6, 6001, 1), PostDesk2.FAILED);
            dueTold("11: nothing changes", desk, 0, 0, 0, 0, 0, 0, 1, logged);
        }
        due("11: as the call", desk.call(16, 6001, 1), 43);
        due("11: EMPTY", desk.again(16, 6001, 1), PostDesk2.EMPTY);
        desk.drop(6001);
        due("11: dropped", desk.again(16, 6001, 1), PostDesk2.UNKNOWN);
    }

    private static void promise12Log() {
        PostDesk2 desk = deskWithOneOfEach();
        desk.answer(16, 40);
        desk.collect(2);
        desk.call(5, 6001, 0);
        long logged = entry(7, 6001, 5) - 1;
        for (int i = 0; i < 3; i++) {
            due("12: an answer", desk.log(16, 6001, 1), entry(logged, 6001, 16) + 43);
            due("12: OUTSIDE", desk.log(20, 6001, 1), logged);
            due("12: OUTSIDE below", desk.log(-1, 6001, 1), logged);
            due("12: UNKNOWN", desk.log(16, Integer.MAX_VALUE, 1), entry(logged, Integer.MAX_VALUE, 16) - 1);
            desk.fails(6, 1 + i);
            due("12: FAILED", desk.log(6, 6001, 1), entry(logged, 6001, 6) - 2 - i);
            dueTold("12: nothing changes", desk, 0, 1, 0, 0, 0, 0, 1, logged);
        }
        long next = desk.log(16, 6001, 1);
        desk.call(16, 6001, 1);
        due("12: as the call", desk.told(7), next);
        due("12: EMPTY", desk.log(16, 6001, 1), entry(next, 6001, 16) - 1);
    }
}

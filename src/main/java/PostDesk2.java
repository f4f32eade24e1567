/**
 * A desk over the parts of a post: it numbers things of ten kinds, sends calls to their parts or refuses them,
 * collects numbers for the next call, and tells of failures and of what a second desk would say.
 */
public final class PostDesk2 {
    public static final long UNKNOWN = -9000000000000000011L, OUTSIDE = -9000000000000000012L, EMPTY = -9000000000000000013L, FAILED = -9000000000000000020L;
    public static final int NONE = -1, ROOM = -14;

    private static final int KINDS = 10;
    private static final int CALLS = 20;
    private static final int FIRST_CALL_THAT_WANTS = 10;
    private static final int LAST_FAILURE = 3;
    private static final int NUMBERS_A_KIND = 1000;
    private static final int MOST_MADE = 99;
    private static final int MOST_COLLECTED = 40;
    private static final int PLACES_A_KIND = MOST_MADE + 1;
    private static final int NO_PLACE = -1;
    private static final int NO_FAILURE = 0;
    private static final long NOT_REFUSED = 0;

    private final int[] made = new int[KINDS];
    private final int[] presentOfKind = new int[KINDS];
    private final boolean[] present = new boolean[KINDS * PLACES_A_KIND];

    private final long[] values = new long[CALLS];
    private final int[] failures = new int[CALLS];

    // The digest stands for the numbers collected: nothing else of them is ever asked for but how many they are.
    private int collected = 0;
    private long digest = 0;

    private long answeredCalls = 0;
    private long refusedCalls = 0;
    private long failedCalls = 0;
    private int latestFailure = NO_FAILURE;
    private int latestNumber = 0;
    private int latestCall = 0;
    private long logged = 7;

    public PostDesk2() {
    }

    public int collect(long v) {
        if (collected >= MOST_COLLECTED) {
            return ROOM;
        }
        digest = 31 * digest + v;
        collected++;
        return collected;
    }

    public int answer(int call, long v) {
        if (!isCall(call)) {
            return NONE;
        }
        values[call] = v;
        failures[call] = NO_FAILURE;
        return 1;
    }

    public int fails(int call, int kind) {
        if (!isCall(call) || kind < NO_FAILURE || kind > LAST_FAILURE) {
            return NONE;
        }
        failures[call] = kind;
        return 1;
    }

    public int make(int kind) {
        if (!isKind(kind)) {
            return NONE;
        }
        if (made[kind] >= MOST_MADE) {
            return ROOM;
        }
        made[kind]++;
        presentOfKind[kind]++;
        present[kind * PLACES_A_KIND + made[kind]] = true;
        return kind * NUMBERS_A_KIND + made[kind];
    }

    public long call(int call, int number, long a) {
        long refusal = refusalOf(call, number);
        if (refusal == OUTSIDE) {
            return OUTSIDE;
        }
        // Both are worked out before the call is settled, for an answered call takes the digest away.
        long reply = replyTo(refusal, call, a);
        logged = logBehind(refusal, call, number, reply);
        settle(refusal, call, number);
        return reply;
    }

    public long told(int what) {
        switch (what) {
            case 0:
                return answeredCalls;
            case 1:
                return refusedCalls;
            case 2:
                return failedCalls;
            case 3:
                return latestFailure;
            case 4:
                return latestNumber;
            case 5:
                return latestCall;
            case 6:
                return collected;
            case 7:
                return logged;
            default:
                return 0;
        }
    }

    public boolean drop(int number) {
        int place = placeOf(number);
        if (place == NO_PLACE || !present[place]) {
            return false;
        }
        present[place] = false;
        presentOfKind[number / NUMBERS_A_KIND]--;
        return true;
    }

    public int numbers(int kind) {
        return isKind(kind) ? presentOfKind[kind] : NONE;
    }

    public boolean isThere(int number) {
        int place = placeOf(number);
        return place != NO_PLACE && present[place];
    }

    // A second desk had every act that changed this one, so it is in this one's state: again and log only
    // have to work out what call would do, and leave it undone.
    public long again(int call, int number, long a) {
        return replyTo(refusalOf(call, number), call, a);
    }

    public long log(int call, int number, long a) {
        long refusal = refusalOf(call, number);
        return logBehind(refusal, call, number, replyTo(refusal, call, a));
    }

    private static boolean isCall(int call) {
        return call >= 0 && call < CALLS;
    }

    private static boolean isKind(int kind) {
        return kind >= 0 && kind < KINDS;
    }

    /** Where in present a number stands, or NO_PLACE if no thing can ever have it. */
    private static int placeOf(int number) {
        if (number < 0) {
            return NO_PLACE;
        }
        int kind = number / NUMBERS_A_KIND;
        int count = number % NUMBERS_A_KIND;
        if (!isKind(kind) || count < 1 || count > MOST_MADE) {
            return NO_PLACE;
        }
        return kind * PLACES_A_KIND + count;
    }

    /**
     * The first ground to refuse a call, or NOT_REFUSED: then the call is one of the CALLS, and has a part. It is
     * kept apart from the reply, because a part may answer the very number that stands for a refusal or a failure.
     */
    private long refusalOf(int call, int number) {
        if (!isCall(call)) {
            return OUTSIDE;
        }
        if (!isThere(number) || number / NUMBERS_A_KIND != call % KINDS) {
            return UNKNOWN;
        }
        if (call >= FIRST_CALL_THAT_WANTS && collected == 0) {
            return EMPTY;
        }
        return NOT_REFUSED;
    }

    /** What a call is told. */
    private long replyTo(long refusal, int call, long a) {
        if (refusal != NOT_REFUSED) {
            return refusal;
        }
        if (failures[call] != NO_FAILURE) {
            return FAILED;
        }
        return values[call] + a + digest;
    }

    /** L behind a call that is told this reply. */
    private long logBehind(long refusal, int call, int number, long reply) {
        if (refusal == OUTSIDE) {
            return logged;
        }
        // 32L, since a number that is no thing's may be so large that 32 times it is no int.
        long entry = 17 * (1000003 * logged + 32L * number + call);
        if (refusal != NOT_REFUSED) {
            return entry - 1;
        }
        if (failures[call] != NO_FAILURE) {
            return entry - 1 - failures[call];
        }
        return entry + reply;
    }

    /** Counts a call that was not OUTSIDE, and does what comes of it but for the log. */
    private void settle(long refusal, int call, int number) {
        if (refusal != NOT_REFUSED) {
            refusedCalls++;
        } else if (failures[call] != NO_FAILURE) {
            failedCalls++;
            latestFailure = failures[call];
            latestNumber = number;
            latestCall = call;
        } else {
            answeredCalls++;
            collected = 0;
            digest = 0;
        }
    }
}

import java.util.ArrayList;
import java.util.HashSet;
import java.util.List;
import java.util.Random;
import java.util.Set;

/**
 * Runs beside a model that does the document's words one by one: it keeps every number collected, its parts throw, and
 * its second desk is a new model on which all acts are done again. The runs are random ones of 512 calls (the seeds are
 * fixed), and every run of a few acts out of a table, with all that can be asked of the desk behind it.
 */
public final class PostDesk2Model {
    private static final int RUNS = 400;
    private static final int CALLS_A_RUN = 512;
    private static final int ACT_COUNT = 11;

    private record Act(int what, int x, int y, long v) {
        boolean isQuestion() {
            return what == 5 || what >= 7;
        }

        @Override
        public String toString() {
            return switch (what) {
                case 0 -> "collect(" + v + ")";
                case 1 -> "answer(" + x + ", " + v + ")";
                case 2 -> "fails(" + x + ", " + y + ")";
                case 3 -> "make(" + x + ")";
                case 4 -> "call(" + x + ", " + y + ", " + v + ")";
                case 5 -> "told(" + x + ")";
                case 6 -> "drop(" + y + ")";
                case 7 -> "numbers(" + x + ")";
                case 8 -> "isThere(" + y + ")";
                case 9 -> "again(" + x + ", " + y + ", " + v + ")";
                default -> "log(" + x + ", " + y + ", " + v + ")";
            };
        }
    }

    private static long done(PostDesk2 desk, Act act) {
        return switch (act.what()) {
            case 0 -> desk.collect(act.v());
            case 1 -> desk.answer(act.x(), act.v());
            case 2 -> desk.fails(act.x(), act.y());
            case 3 -> desk.make(act.x());
            case 4 -> desk.call(act.x(), act.y(), act.v());
            case 5 -> desk.told(act.x());
            case 6 -> desk.drop(act.y()) ? 1 : 0;
            case 7 -> desk.numbers(act.x());
            case 8 -> desk.isThere(act.y()) ? 1 : 0;
            case 9 -> desk.again(act.x(), act.y(), act.v());
            default -> desk.log(act.x(), act.y(), act.v());
        };
    }

    private static final class Part {
        long v = 0;
        int failing = 0;

        long run(long a, List<Long> collected) {
            switch (failing) {
                case 1 -> throw new ArithmeticException();
                case 2 -> throw new IndexOutOfBoundsException();
                case 3 -> throw new IllegalStateException();
                default -> { }
            }
            long digest = 0;
            for (long one : collected) {
                digest = digest * 31 + one;
            }
            return v + a + digest;
        }
    }

    private static final class Model {
        final Set<Integer> things = new HashSet<>();
        final int[] made = new int[10];
        final Part[] parts = new Part[20];
        final List<Long> collected = new ArrayList<>();
        final List<Act> acts = new ArrayList<>();
        final long[] told = {0, 0, 0, 0, 0, 0, 0, 7};

        Model() {
            for (int i = 0; i < parts.length; i++) {
                parts[i] = new Part();
            }
        }

        long done(Act act) {
            int x = act.x();
            int y = act.y();
            if (!act.isQuestion()) {
                acts.add(act);
            }
            return switch (act.what()) {
                case 0 -> collect(act.v());
                case 1 -> answer(x, act.v());
                case 2 -> fails(x, y);
                case 3 -> make(x);
                case 4 -> call(x, y, act.v());
                case 5 -> x == 6 ? collected.size() : x >= 0 && x <= 7 ? told[x] : 0;
                case 6 -> things.remove(y) ? 1 : 0;
                case 7 -> numbers(x);
                case 8 -> things.contains(y) ? 1 : 0;
                case 9 -> secondDesk().call(x, y, act.v());
                default -> {
                    Model second = secondDesk();
                    second.call(x, y, act.v());
                    yield second.told[7];
                }
            };
        }

        private Model secondDesk() {
            Model second = new Model();
            for (Act act : acts) {
                second.done(act);
            }
            return second;
        }

        private long collect(long v) {
            if (collected.size() == 40) {
                return -14;
            }
            collected.add(v);
            return collected.size();
        }

        private long answer(int call, long v) {
            if (call < 0 || call > 19) {
                return -1;
            }
            parts[call].v = v;
            parts[call].failing = 0;
            return 1;
        }

        private long fails(int call, int kind) {
            if (call < 0 || call > 19 || kind < 0 || kind > 3) {
                return -1;
            }
            parts[call].failing = kind;
            return 1;
        }

        private long make(int kind) {
            if (kind < 0 || kind > 9) {
                return -1;
            }
            if (made[kind] == 99) {
                return -14;
            }
            made[kind]++;
            things.add(1000 * kind + made[kind]);
            return 1000 * kind + made[kind];
        }

        private long numbers(int kind) {
            if (kind < 0 || kind > 9) {
                return -1;
            }
            return things.stream().filter(number -> number / 1000 == kind).count();
        }

        private long call(int call, int number, long a) {
            if (call < 0 || call > 19) {
                return -9000000000000000012L;
            }
            long entry = 1000003L * told[7] + 32L * number + call;
            if (!things.contains(number) || number / 1000 != call % 10) {
                return refused(entry, -9000000000000000011L);
            }
            if (call > 9 && collected.isEmpty()) {
                return refused(entry, -9000000000000000013L);
            }
            try {
                long answer = parts[call].run(a, collected);
                told[0]++;
                told[7] = entry * 17 + answer;
                collected.clear();
                return answer;
            } catch (ArithmeticException e) {
                return failed(entry, 1, number, call);
            } catch (IndexOutOfBoundsException e) {
                return failed(entry, 2, number, call);
            } catch (IllegalStateException e) {
                return failed(entry, 3, number, call);
            }
        }

        private long refused(long entry, long code) {
            told[1]++;
            told[7] = entry * 17 - 1;
            return code;
        }

        private long failed(long entry, int kind, int number, int call) {
            told[2]++;
            told[3] = kind;
            told[4] = number;
            told[5] = call;
            told[7] = entry * 17 - 1 - kind;
            return -9000000000000000020L;
        }
    }

    /** Makes acts; each run leans to some of them and to few kinds, so that the limits of 40 and 99 are met. */
    private static final class Acts {
        final Random random;
        final int[] weights = new int[ACT_COUNT];
        final int kinds;
        int sum = 0;

        Acts(long seed) {
            random = new Random(seed);
            kinds = 1 + random.nextInt(random.nextBoolean() ? 2 : 10);
            for (int i = 0; i < ACT_COUNT; i++) {
                weights[i] = 1 + random.nextInt(random.nextInt(4) == 0 ? 60 : 8);
                sum += weights[i];
            }
        }

        Act next() {
            int left = random.nextInt(sum);
            int what = 0;
            while (left >= weights[what]) {
                left -= weights[what];
                what++;
            }
            return switch (what) {
                case 2 -> new Act(what, call(), random.nextInt(8) == 0 ? wild() : random.nextInt(5), 0);
                case 3, 7 -> new Act(what, random.nextInt(12) == 0 ? wild() : random.nextInt(kinds), 0, 0);
                case 5 -> new Act(what, random.nextInt(20) == 0 ? wild() : random.nextInt(8), 0, 0);
                default -> withNumber(what);
            };
        }

        private Act withNumber(int what) {
            int call = call();
            int kind = random.nextInt(6) != 0 && call >= 0 ? call % 10 : random.nextInt(kinds);
            int count = random.nextInt(3) == 0 ? random.nextInt(102) : 1 + random.nextInt(8);
            int number = random.nextInt(12) == 0 ? wild() : 1000 * kind + count;
            return new Act(what, call, number, value());
        }

        private int call() {
            return random.nextInt(15) == 0 ? wild() : random.nextInt(kinds) + 10 * random.nextInt(2);
        }

        private int wild() {
            int[] edges = {-1, 0, 3, 4, 7, 8, 9, 10, 19, 20, 9099, 9100, 10001, Integer.MAX_VALUE, Integer.MIN_VALUE};
            return random.nextBoolean() ? edges[random.nextInt(edges.length)] : random.nextInt();
        }

        private long value() {
            return switch (random.nextInt(4)) {
                case 0 -> random.nextLong();
                case 1 -> new long[] {0, -1, Long.MAX_VALUE, Long.MIN_VALUE, PostDesk2.FAILED, PostDesk2.OUTSIDE,
                    PostDesk2.UNKNOWN, PostDesk2.EMPTY}[random.nextInt(8)];
                default -> random.nextInt(200) - 100;
            };
        }
    }

    /** What is wrong in a run, or null. */
    private static String run(long seed) {
        Acts acts = new Acts(seed);
        Model model = new Model();
        PostDesk2 desk = new PostDesk2();
        PostDesk2 second = new PostDesk2();
        for (int i = 0; i < CALLS_A_RUN; i++) {
            Act act = acts.next();
            long want = model.done(act);
            long got = done(desk, act);
            if (got != want) {
                return "call " + i + ", " + act + " answered " + got + ", due is " + want;
            }
            // The second desk never hears a question, so a question that changed the first would part the two.
            if (!act.isQuestion() && done(second, act) != want) {
                return "call " + i + ", " + act + " differs on a second desk";
            }
        }
        return null;
    }

    /**
     * Acts on the first things of two kinds, with
     * every outcome that an act can have but ROOM, which wants too many.
     */
    private static final Act[] TABLE = {
        new Act(0, 0, 0, 5), new Act(0, 0, 0, -6), new Act(1, 0, 0, 40), new Act(1, 10, 0, 50), new Act(1, 20, 0, 60),
        new Act(2, 0, 1, 0), new Act(2, 10, 3, 0), new Act(2, 10, 0, 0), new Act(2, 10, 4, 0), new Act(3, 0, 0, 0),
        new Act(3, 1, 0, 0), new Act(3, 10, 0, 0), new Act(6, 0, 1, 0), new Act(6, 0, 2, 0), new Act(4, 0, 1, 7),
        new Act(4, 10, 1, 7), new Act(4, 10, 2, 7), new Act(4, 1, 1001, 7), new Act(4, 1, 1, 7), new Act(4, 20, 1, 7),
        new Act(9, 10, 1, 7), new Act(10, 0, 1, 7)
    };
    private static final int ACTS_OF_A_SHORT_RUN = 4;

    /** All that can be asked of a desk on which nothing but acts of the table was done. */
    private static List<Act> questions() {
        List<Act> questions = new ArrayList<>();
        for (int what = -1; what <= 8; what++) {
            questions.add(new Act(5, what, 0, 0));
        }
        for (int kind = -1; kind <= 10; kind++) {
            questions.add(new Act(7, kind, 0, 0));
        }
        for (int number : new int[] {0, 1, 2, 3, 4, 5, 1000, 1001, 1002, 1003, 1004}) {
            questions.add(new Act(8, 0, number, 0));
        }
        for (int call : new int[] {-1, 0, 1, 10, 11, 20}) {
            for (int number : new int[] {1, 2, 3, 1001, 1002}) {
                questions.add(new Act(9, call, number, 3));
                questions.add(new Act(10, call, number, 3));
            }
        }
        return questions;
    }

    /** The run of that many acts of the table, behind a first thing made: in the base of the table's length. */
    private static List<Act> shortRun(int which) {
        List<Act> run = new ArrayList<>();
        run.add(new Act(3, 0, 0, 0));
        for (int i = 0; i < ACTS_OF_A_SHORT_RUN; i++) {
            run.add(TABLE[which % TABLE.length]);
            which /= TABLE.length;
        }
        return run;
    }

    /** What is wrong in a run with these questions behind it, or null. */
    private static String fault(List<Act> run, List<Act> questions) {
        Model model = new Model();
        PostDesk2 desk = new PostDesk2();
        List<Act> all = new ArrayList<>(run);
        all.addAll(questions);
        for (Act act : all) {
            long want = model.done(act);
            long got = done(desk, act);
            if (got != want) {
                return act + " behind " + run + " answered " + got + ", due is " + want;
            }
        }
        return null;
    }

    private static int wrongShortRuns() {
        List<Act> questions = questions();
        int runs = 1;
        for (int i = 0; i < ACTS_OF_A_SHORT_RUN; i++) {
            runs *= TABLE.length;
        }
        int wrong = 0;
        for (int which = 0; which < runs; which++) {
            String fault = fault(shortRun(which), questions);
            if (fault != null) {
                wrong++;
                // One broken sentence may spoil most of the runs: a few tell enough.
                if (wrong <= 10) {
                    System.out.println(fault);
                }
            }
        }
        return wrong;
    }

    public static void main(String[] args) {
        int wrong = wrongShortRuns();
        for (int seed = 1; seed <= RUNS; seed++) {
            String fault = run(seed);
            if (fault != null) {
                wrong++;
                System.out.println("run " + seed + ": " + fault);
            }
        }
        System.out.println(wrong == 0 ? "all runs are as the model's" : wrong + " runs are not as the model's");
        if (wrong != 0) {
            System.exit(1);
        }
    }
}

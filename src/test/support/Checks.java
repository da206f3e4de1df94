import java.util.Arrays;

/** What the tests share: asking for the answers that are due, and making what they ask about. */
abstract class Checks {
    static final long BIG = Long.MAX_VALUE;
    static final long LEAST = Long.MIN_VALUE;
    static final int THROWN = -777;
    static final int OTHER_THROWN = -778;

    // Far above what the slowest test needs, so that only a call without an end gets there.
    private static final int MOST_MILLISECONDS = 120_000;

    static final int[] NO_NUMBERS = {0, -1, 61, 64, 65, 1000, Integer.MIN_VALUE, Integer.MAX_VALUE};
    private static final int[] NO_FIELDS = {-1, 4, 5, -4, 8, Integer.MIN_VALUE, Integer.MAX_VALUE};

    private static int wrong = 0;
    private static String part = "";

    /** One sentence of the document with the test that would fail if it were broken. */
    static void sentence(String words, Runnable test) {
        part = words;
        Thread thread = new Thread(() -> runTest(test));
        thread.setDaemon(true);
        thread.start();
        if (!hasEnded(thread)) {
            System.out.println(part + ": a call does not end");
            System.exit(1);
        }
    }

    private static void runTest(Runnable test) {
        try {
            test.run();
        } catch (RuntimeException | Error e) {
            wrong++;
            System.out.println(part + ": threw " + e);
        }
    }

    private static boolean hasEnded(Thread thread) {
        try {
            thread.join(MOST_MILLISECONDS);
        } catch (InterruptedException e) {
            return false;
        }
        return !thread.isAlive();
    }

    static void end() {
        System.out.println(wrong == 0 ? "all answers are as due" : wrong + " answers are not as due");
        if (wrong != 0) {
            System.exit(1);
        }
    }

    static void due(String call, long got, long want) {
        if (got != want) {
            wrong++;
            System.out.println(part + ": " + call + " answered " + got + ", due is " + want);
        }
    }

    static void due(String call, boolean got, boolean want) {
        due(call, got ? 1 : 0, want ? 1 : 0);
    }

    static void dueFields(BatchClasses x, int record, long a, long b, long c, long d) {
        due("value(" + record + ", 0)", x.value(record, 0), a);
        due("value(" + record + ", 1)", x.value(record, 1), b);
        due("value(" + record + ", 2)", x.value(record, 2), c);
        due("value(" + record + ", 3)", x.value(record, 3), d);
    }

    static void dueFailure(BatchClasses x, int i, int record, int kind, int of) {
        due("failed(" + i + ", 0)", x.failed(i, 0), record);
        due("failed(" + i + ", 1)", x.failed(i, 1), kind);
        due("failed(" + i + ", 2)", x.failed(i, 2), of);
    }

    static void dueNoFailure(BatchClasses x, int i) {
        dueFailure(x, i, -1, -1, -1);
    }

    /** Numbers of no class, record or type where there are so many. */
    static int[] noNumbers(int there) {
        int[] numbers = Arrays.copyOf(NO_NUMBERS, NO_NUMBERS.length + 1);
        numbers[NO_NUMBERS.length] = there + 1;
        return numbers;
    }

    static int[] noFields() {
        return NO_FIELDS.clone();
    }

    /** The acts in their order, the first in the lowest four bits; the rest of the eight are 0. */
    static int program(int... acts) {
        int does = 0;
        for (int i = 0; i < acts.length; i++) {
            does |= acts[i] << (4 * i);
        }
        return does;
    }

    static int classOf(BatchClasses x, int... acts) {
        return x.make(x.type(program(acts), false));
    }

    static int run(BatchClasses x, int record, int... acts) {
        return x.run(classOf(x, acts), record);
    }

    static void makeRecords(BatchClasses x, int many) {
        for (int i = 0; i < many; i++) {
            x.record(0, 0);
        }
    }

    /** A record with these fields, made with three steps at most for each of its runs. */
    static int recordOf(BatchClasses x, long a, long b, long c, long d) {
        int record = x.record(0, c);
        run(x, record, 12, 11, 13);
        int carrier = x.type(program(8, 9, 13), false);
        addToA(x, carrier, record, d);
        run(x, record, 12, 13);
        addToA(x, carrier, record, b - c - d);
        run(x, record, 3, 13);
        addToA(x, carrier, record, a - b);
        dueFields(x, record, a, b, c, d);
        return record;
    }

    /** The CELL of a new class carries what is added from a record of its own. */
    private static void addToA(BatchClasses x, int carrier, int record, long more) {
        int of = x.make(carrier);
        x.run(of, x.record(0, more));
        x.run(of, record);
    }

    static int handleOf(BatchClasses x, int record) {
        try {
            return x.handle(record);
        } catch (IllegalStateException e) {
            return e.getClass() == IllegalStateException.class ? THROWN : OTHER_THROWN;
        }
    }

    static long divided(BatchClasses x, int of, long a, long by) {
        try {
            return x.divide(of, a, by);
        } catch (ArithmeticException e) {
            return e.getClass() == ArithmeticException.class ? THROWN : OTHER_THROWN;
        }
    }
}

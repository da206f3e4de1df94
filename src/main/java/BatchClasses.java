/**
 * Batch changes of records by small classes: each run of a class has a cell of its own, steps that
 * end, failures that leave a record as it was, dry runs, and goes on where it was stopped.
 */
public final class BatchClasses {
    public static final int NONE = -1;

    private static final int MOST_STEPS = 200;
    private static final int MOST_TYPES = 20;
    private static final int MOST_CLASSES = 60;
    private static final int MOST_RECORDS = 60;
    private static final int FIELDS = 4;

    private static final int DONE = 1;
    private static final int NO_KIND = 0;
    private static final int KIND_ABSENT = 1;
    private static final int KIND_DIVISION = 2;
    private static final int KIND_ACT = 3;
    private static final int KIND_STEPS = 4;
    private static final int KIND_LOCKED = 5;

    private final int steps;
    private final Trial trial = new Trial();
    private final FailureLog log = new FailureLog();

    private int types = 0;
    private final int[] programs = new int[MOST_TYPES];
    private final boolean[] startFailing = new boolean[MOST_TYPES];

    private int classes = 0;
    private final int[] typeOf = new int[MOST_CLASSES];
    private final long[] cells = new long[MOST_CLASSES];
    private final int[] greatestDone = new int[MOST_CLASSES];

    private int records = 0;
    private final long[] fields = new long[MOST_RECORDS * FIELDS];
    private final boolean[] locked = new boolean[MOST_RECORDS];
    // One bit for each class: the limit of 60 classes fits the 64 bits of a long.
    private final long[] doneBy = new long[MOST_RECORDS];

    private int latestRecord = 0;
    private boolean latestDone = false;

    public BatchClasses(int steps) {
        this.steps = Math.max(1, Math.min(MOST_STEPS, steps));
    }

    public int type(int does, boolean startFails) {
        if (types >= MOST_TYPES) {
            return 0;
        }
        programs[types] = does;
        startFailing[types] = startFails;
        types++;
        return types;
    }

    public int make(int type) {
        if (type < 1 || type > types || startFailing[type - 1] || classes >= MOST_CLASSES) {
            return NONE;
        }
        typeOf[classes] = type;
        classes++;
        return classes;
    }

    public int record(int field, long v) {
        if (!isField(field) || records >= MOST_RECORDS) {
            return 0;
        }
        fields[records * FIELDS + field] = v;
        records++;
        return records;
    }

    public int run(int of, int record) {
        if (!isClass(of) || !isRecord(record)) {
            return -KIND_ABSENT;
        }
        int kind = runOne(of, record);
        return kind == NO_KIND ? DONE : -kind;
    }

    public long value(int record, int field) {
        if (!isRecord(record) || !isField(field)) {
            return 0;
        }
        return fields[(record - 1) * FIELDS + field];
    }

    public int failed(int i, int what) {
        return log.look(i, what);
    }

    public long cell(int of) {
        return isClass(of) ? cells[of - 1] : 0;
    }

    public boolean same(int a, int b) {
        return isClass(a) && isClass(b) && typeOf[a - 1] == typeOf[b - 1];
    }

    public int resume(int of) {
        if (!isClass(of)) {
            return NONE;
        }
        for (int record = greatestDone[of - 1] + 1; record <= records; record++) {
            if (runOne(of, record) != NO_KIND) {
                return record;
            }
        }
        return 0;
    }

    public long divide(int of, long a, long by) throws ArithmeticException {
        if (!isClass(of)) {
            return 0;
        }
        if (by == 0) {
            throw new ArithmeticException("divided by 0");
        }
        return a / by;
    }

    public int dry(int of, int record) {
        if (!isClass(of) || !isRecord(record)) {
            return -KIND_ABSENT;
        }
        int kind = attempt(of, record);
        return kind == NO_KIND ? trial.countOthers(fields, (record - 1) * FIELDS) : -kind;
    }

    public int handle(int record) throws IllegalStateException {
        if (!isRecord(record) || record != latestRecord || !latestDone) {
            throw new IllegalStateException("not the record that was run latest and done");
        }
        return Long.bitCount(doneBy[record - 1]);
    }

    private boolean isClass(int of) {
        return of >= 1 && of <= classes;
    }

    private boolean isRecord(int record) {
        return record >= 1 && record <= records;
    }

    private static boolean isField(int field) {
        return field >= 0 && field < FIELDS;
    }

    /** Runs a class that is there on a record that is there; answers the kind of its failure. */
    private int runOne(int of, int record) {
        int kind = attempt(of, record);
        latestRecord = record;
        latestDone = kind == NO_KIND;
        if (kind == NO_KIND) {
            keep(of, record);
        } else {
            log.note(record, kind, of);
        }
        return kind;
    }

    /** Works in the trial alone, so that a failure or a dry run has nothing to take back. */
    private int attempt(int of, int record) {
        if (locked[record - 1]) {
            return KIND_LOCKED;
        }
        trial.load(fields, (record - 1) * FIELDS, cells[of - 1]);
        return trial.perform(programs[typeOf[of - 1] - 1], steps);
    }

    private void keep(int of, int record) {
        trial.store(fields, (record - 1) * FIELDS);
        cells[of - 1] = trial.cell;
        // A locked record is never tried, so the trial's lock is the only one to keep.
        locked[record - 1] = trial.locks;
        doneBy[record - 1] |= 1L << (of - 1);
        greatestDone[of - 1] = Math.max(greatestDone[of - 1], record);
    }

    /** A copy of one record's fields and one class's cell, on which a program is tried. */
    private static final class Trial {
        private static final int ACTS = 8;
        private static final int ACT_BITS = 4;
        private static final int ACT_MASK = 15;
        private static final int BEGIN_ANEW = 6;
        private static final int END = 13;

        private long a = 0;
        private long b = 0;
        private long c = 0;
        private long d = 0;
        private long cell = 0;
        private boolean locks = false;

        private void load(long[] from, int base, long cellBefore) {
            a = from[base];
            b = from[base + 1];
            c = from[base + 2];
            d = from[base + 3];
            cell = cellBefore;
            locks = false;
        }

        private void store(long[] to, int base) {
            to[base] = a;
            to[base + 1] = b;
            to[base + 2] = c;
            to[base + 3] = d;
        }

        private int countOthers(long[] before, int base) {
            return (a != before[base] ? 1 : 0)
                + (b != before[base + 1] ? 1 : 0)
                + (c != before[base + 2] ? 1 : 0)
                + (d != before[base + 3] ? 1 : 0);
        }

        private int perform(int program, int steps) {
            int at = 0;
            for (int step = 0; step < steps; step++) {
                int act = (program >>> (at * ACT_BITS)) & ACT_MASK;
                at++;
                if (act == END) {
                    return NO_KIND;
                }
                if (act == BEGIN_ANEW && a < c) {
                    at = 0;
                }
                int kind = change(act);
                if (kind != NO_KIND) {
                    return kind;
                }
                if (at >= ACTS) {
                    return NO_KIND;
                }
            }
            return KIND_STEPS;
        }

        /** Does what an act does to the values; acts that only steer the program change none. */
        private int change(int act) {
            switch (act) {
                case 1:
                    a++;
                    break;
                case 2:
                    a *= 2;
                    break;
                case 3:
                    b = a;
                    break;
                case 4:
                    if (b == 0) {
                        return KIND_DIVISION;
                    }
                    a /= b;
                    break;
                case 5:
                    swap();
                    break;
                case 7:
                    locks = true;
                    break;
                case 8:
                    cell += a;
                    break;
                case 9:
                    a = cell;
                    break;
                case 10:
                    return KIND_ACT;
                case 11:
                    c = d;
                    break;
                case 12:
                    d = a - c;
                    break;
                default:
                    break;
            }
            return NO_KIND;
        }

        private void swap() {
            long before = a;
            a = b;
            b = before;
        }
    }

    /** The first failures, as many as the document lets be asked for. */
    private static final class FailureLog {
        private static final int KEPT = 100;

        private int count = 0;
        private final int[] ofRecord = new int[KEPT];
        private final int[] ofKind = new int[KEPT];
        private final int[] ofClass = new int[KEPT];

        private void note(int record, int kind, int of) {
            if (count >= KEPT) {
                return;
            }
            ofRecord[count] = record;
            ofKind[count] = kind;
            ofClass[count] = of;
            count++;
        }

        private int look(int i, int what) {
            if (i < 0 || i >= count) {
                return NONE;
            }
            switch (what) {
                case 0:
                    return ofRecord[i];
                case 1:
                    return ofKind[i];
                case 2:
                    return ofClass[i];
                default:
                    return NONE;
            }
        }
    }
}

import java.util.ArrayList;
import java.util.HashSet;
import java.util.List;
import java.util.Random;
import java.util.Set;

/**
 * Many runs of calls, by a fixed seed, against a second writing of the document: it changes the
 * record in place and takes back what failed, where the class works on a copy.
 */
public final class ModelTest extends Checks {
    private static final int RUNS = 3000;
    private static final int CALLS = 512;
    private static final String STATE = "throws.IllegalStateException";
    private static final String ARITHMETIC = "throws.ArithmeticException";

    public static void main(String[] args) {
        sentence("runs by seed", ModelTest::runsAreAsDue);
        end();
    }

    private static void runsAreAsDue() {
        int wrongRuns = 0;
        for (int seed = 1; seed <= RUNS && wrongRuns < 10; seed++) {
            wrongRuns += isRunAsDue(seed) ? 0 : 1;
        }
        due("so many runs", wrongRuns, 0);
    }

    private static boolean isRunAsDue(int seed) {
        Random random = new Random(seed);
        int steps = random.nextInt(4) == 0 ? random.nextInt(260) - 20 : 5 + random.nextInt(30);
        BatchClasses x = new BatchClasses(steps);
        Model model = new Model(steps);
        for (int i = 0; i < CALLS; i++) {
            Call call = new Call(random, i, model);
            String got = call.ask(x);
            String want = call.ask(model);
            if (!got.equals(want)) {
                System.out.println("seed " + seed + ", call " + i + ": " + call + " answered " + got
                    + ", due is " + want);
                return false;
            }
        }
        return true;
    }

    /** One call with its inputs, mostly of what is there and at times of what is not. */
    private static final class Call {
        private static final String[] NAMES = {"type", "make", "record", "run", "value", "failed",
            "cell", "same", "resume", "divide", "dry", "handle"};
        private static final int[] EARLY = {0, 0, 1, 1, 2, 2};
        private static final int[] LATE = {0, 1, 2, 3, 3, 3, 3, 3, 4, 4, 4, 4, 5, 5, 6, 6, 7, 8, 8, 9, 10,
            10, 11, 11, 11};

        private final int which;
        private final int p;
        private final int q;
        private final long v;
        private final long w;

        Call(Random random, int i, Model model) {
            which = i < 12 ? EARLY[i % 6] : LATE[random.nextInt(LATE.length)];
            v = someLong(random);
            w = someLong(random);
            int of = someNumber(random, model.classes.size());
            int record = random.nextInt(3) == 0 && model.latest != null
                ? model.latest.number : someNumber(random, model.records.size());
            switch (NAMES[which]) {
                case "type":
                    p = someProgram(random);
                    q = random.nextInt(6);
                    break;
                case "make":
                    p = someNumber(random, model.types.size());
                    q = 0;
                    break;
                case "record":
                    p = random.nextInt(10) == 0 ? random.nextInt(8) - 2 : random.nextInt(4);
                    q = 0;
                    break;
                case "value":
                    p = record;
                    q = random.nextInt(10) == 0 ? random.nextInt(8) - 2 : random.nextInt(4);
                    break;
                case "failed":
                    p = someNumber(random, model.failures.size()) - 1;
                    q = random.nextInt(5) - 1;
                    break;
                case "same":
                    p = of;
                    q = someNumber(random, model.classes.size());
                    break;
                case "handle":
                    p = record;
                    q = 0;
                    break;
                default:
                    p = of;
                    q = record;
                    break;
            }
        }

        private static int someNumber(Random random, int most) {
            if (random.nextInt(25) == 0) {
                int[] odd = {0, -1, most + 1, most + 2, 61, Integer.MIN_VALUE, Integer.MAX_VALUE};
                return odd[random.nextInt(odd.length)];
            }
            return 1 + random.nextInt(most + 1);
        }

        private static long someLong(Random random) {
            switch (random.nextInt(5)) {
                case 0:
                    return random.nextLong();
                case 1:
                    long[] edges = {Long.MIN_VALUE, Long.MAX_VALUE, -1, 0, 1};
                    return edges[random.nextInt(edges.length)];
                default:
                    return random.nextInt(41) - 20;
            }
        }

        /** Acts that fail are rarer here, so that records are done often enough to go on. */
        private static int someProgram(Random random) {
            int does = 0;
            for (int i = 0; i < 8; i++) {
                int act = random.nextInt(16);
                boolean hard = act == 4 || act == 7 || act == 10;
                does |= (hard && random.nextInt(3) != 0 ? 8 + random.nextInt(2) : act) << (4 * i);
            }
            return does;
        }

        String ask(BatchClasses x) {
            try {
                switch (NAMES[which]) {
                    case "type": return "" + x.type(p, q == 0);
                    case "make": return "" + x.make(p);
                    case "record": return "" + x.record(p, v);
                    case "run": return "" + x.run(p, q);
                    case "value": return "" + x.value(p, q);
                    case "failed": return "" + x.failed(p, q);
                    case "cell": return "" + x.cell(p);
                    case "same": return "" + x.same(p, q);
                    case "resume": return "" + x.resume(p);
                    case "divide": return "" + x.divide(p, v, w);
                    case "dry": return "" + x.dry(p, q);
                    default: return "" + x.handle(p);
                }
            } catch (IllegalStateException e) {
                return STATE;
            } catch (ArithmeticException e) {
                return ARITHMETIC;
            }
        }

        String ask(Model model) {
            switch (NAMES[which]) {
                case "type": return "" + model.type(p, q == 0);
                case "make": return "" + model.make(p);
                case "record": return "" + model.record(p, v);
                case "run": return "" + model.run(p, q);
                case "value": return "" + model.value(p, q);
                case "failed": return "" + model.failed(p, q);
                case "cell": return "" + model.cell(p);
                case "same": return "" + model.same(p, q);
                case "resume": return "" + model.resume(p);
                case "divide": return model.divide(p, v, w);
                case "dry": return "" + model.dry(p, q);
                default: return model.handle(p);
            }
        }

        @Override
        public String toString() {
            return NAMES[which] + "(" + p + ", " + q + ", " + v + ", " + w + ")";
        }
    }

    private static final class Kind {
        private final int[] acts = new int[8];
        private boolean startFails;
    }

    private static final class Maker {
        private int number;
        private Kind kind;
        private long cell;
        private final Set<Integer> done = new HashSet<>();
    }

    private static final class Row {
        private int number;
        private long[] fields = new long[4];
        private boolean locked;
    }

    private static final class Model {
        private final int steps;
        private final List<Kind> types = new ArrayList<>();
        private final List<Maker> classes = new ArrayList<>();
        private final List<Row> records = new ArrayList<>();
        private final List<int[]> failures = new ArrayList<>();
        private Row latest = null;
        private boolean latestDone = false;

        Model(int steps) {
            this.steps = steps < 1 ? 1 : steps > 200 ? 200 : steps;
        }

        private static <T> T at(List<T> list, int number) {
            return number >= 1 && number <= list.size() ? list.get(number - 1) : null;
        }

        int type(int does, boolean startFails) {
            if (types.size() == 20) {
                return 0;
            }
            Kind kind = new Kind();
            String hex = String.format("%08x", does);
            for (int i = 0; i < 8; i++) {
                kind.acts[i] = Character.digit(hex.charAt(7 - i), 16);
            }
            kind.startFails = startFails;
            types.add(kind);
            return types.size();
        }

        int make(int type) {
            Kind kind = at(types, type);
            if (kind == null || kind.startFails || classes.size() == 60) {
                return -1;
            }
            Maker made = new Maker();
            made.kind = kind;
            classes.add(made);
            made.number = classes.size();
            return made.number;
        }

        int record(int field, long v) {
            if (field < 0 || field > 3 || records.size() == 60) {
                return 0;
            }
            Row row = new Row();
            row.fields[field] = v;
            records.add(row);
            row.number = records.size();
            return row.number;
        }

        int run(int of, int record) {
            Maker maker = at(classes, of);
            Row row = at(records, record);
            if (maker == null || row == null) {
                return -1;
            }
            latest = row;
            int kind = row.locked ? 5 : changeInPlace(maker, row);
            latestDone = kind == 0;
            if (kind == 0) {
                maker.done.add(record);
                return 1;
            }
            failures.add(new int[] {record, kind, of});
            return -kind;
        }

        long value(int record, int field) {
            Row row = at(records, record);
            return row == null || field < 0 || field > 3 ? 0 : row.fields[field];
        }

        int failed(int i, int what) {
            boolean there = i >= 0 && i < failures.size() && i < 100 && what >= 0 && what <= 2;
            return there ? failures.get(i)[what] : -1;
        }

        long cell(int of) {
            Maker maker = at(classes, of);
            return maker == null ? 0 : maker.cell;
        }

        boolean same(int a, int b) {
            Maker one = at(classes, a);
            Maker two = at(classes, b);
            return one != null && two != null && one.kind == two.kind;
        }

        int resume(int of) {
            Maker maker = at(classes, of);
            if (maker == null) {
                return -1;
            }
            int greatest = 0;
            for (int record : maker.done) {
                greatest = Math.max(greatest, record);
            }
            for (int record = greatest + 1; record <= records.size(); record++) {
                if (run(of, record) != 1) {
                    return record;
                }
            }
            return 0;
        }

        String divide(int of, long a, long by) {
            if (at(classes, of) == null) {
                return "0";
            }
            return by == 0 ? ARITHMETIC : "" + a / by;
        }

        int dry(int of, int record) {
            Maker maker = at(classes, of);
            Row row = at(records, record);
            if (maker == null || row == null) {
                return -1;
            }
            if (row.locked) {
                return -5;
            }
            long[] before = row.fields.clone();
            long cell = maker.cell;
            int kind = changeInPlace(maker, row);
            int others = 0;
            for (int field = 0; field < 4; field++) {
                others += row.fields[field] != before[field] ? 1 : 0;
            }
            row.fields = before;
            row.locked = false;
            maker.cell = cell;
            return kind == 0 ? others : -kind;
        }

        String handle(int record) {
            if (latest == null || latest.number != record || !latestDone) {
                return STATE;
            }
            int by = 0;
            for (Maker maker : classes) {
                by += maker.done.contains(record) ? 1 : 0;
            }
            return "" + by;
        }

        private int changeInPlace(Maker maker, Row row) {
            long[] before = row.fields.clone();
            long cell = maker.cell;
            int kind = interpret(maker, row);
            if (kind != 0) {
                row.fields = before;
                row.locked = false;
                maker.cell = cell;
            }
            return kind;
        }

        private int interpret(Maker maker, Row row) {
            long[] f = row.fields;
            int begun = 0;
            int next = 0;
            while (next < 8) {
                if (begun == steps) {
                    return 4;
                }
                begun++;
                int act = maker.kind.acts[next];
                next++;
                if (act == 1) {
                    f[0] = f[0] + 1;
                } else if (act == 2) {
                    f[0] = f[0] + f[0];
                } else if (act == 3) {
                    f[1] = f[0];
                } else if (act == 4 && f[1] == 0) {
                    return 2;
                } else if (act == 4) {
                    f[0] = f[0] / f[1];
                } else if (act == 5) {
                    long a = f[0];
                    f[0] = f[1];
                    f[1] = a;
                } else if (act == 6 && f[0] < f[2]) {
                    next = 0;
                } else if (act == 7) {
                    row.locked = true;
                } else if (act == 8) {
                    maker.cell = maker.cell + f[0];
                } else if (act == 9) {
                    f[0] = maker.cell;
                } else if (act == 10) {
                    return 3;
                } else if (act == 11) {
                    f[2] = f[3];
                } else if (act == 12) {
                    f[3] = f[0] - f[2];
                } else if (act == 13) {
                    return 0;
                }
            }
            return 0;
        }
    }
}

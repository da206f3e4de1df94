/** The sentences of promises 1 to 4 that name an edge: a new object, type, make and record. */
public final class EdgesOfMakingTest extends Checks {
    public static void main(String[] args) {
        promise1();
        promise2();
        promise3();
        promise4();
        end();
    }

    private static void promise1() {
        sentence("1: 1 .. 200", EdgesOfMakingTest::stepsInRange);
        sentence("1: what is less is the nearest of these", EdgesOfMakingTest::stepsTooFew);
        sentence("1: what is more is the nearest of these", EdgesOfMakingTest::stepsTooMany);
        sentence("1: so many STEPS for one record", EdgesOfMakingTest::stepsAreForOneRecord);
        sentence("1: nothing is there", EdgesOfMakingTest::nothingIsThere);
        sentence("1: nothing is there, of another object either", EdgesOfMakingTest::objectsShareNothing);
    }

    private static void promise2() {
        sentence("2: its number, 1 .. 20, as they come", EdgesOfMakingTest::typeNumbers);
        sentence("2: 0 if there are 20", EdgesOfMakingTest::typesAreFull);
        sentence("2: 0 if there are 20, and nothing changes", EdgesOfMakingTest::refusedTypeChangesNothing);
    }

    private static void promise3() {
        sentence("3: its number, 1 .. 60, as they are made", EdgesOfMakingTest::classNumbers);
        sentence("3: its CELL is 0", EdgesOfMakingTest::newCellIsZero);
        sentence("3: no record was done", EdgesOfMakingTest::newClassHasDoneNothing);
        sentence("3: NONE if there is no such type", EdgesOfMakingTest::makeOfNoType);
        sentence("3: NONE if its START fails", EdgesOfMakingTest::makeWhoseStartFails);
        sentence("3: NONE if there are 60", EdgesOfMakingTest::classesAreFull);
        sentence("3: NONE, and no number is taken", EdgesOfMakingTest::refusedMakeTakesNoNumber);
        sentence("3: NONE, and nothing changes", EdgesOfMakingTest::refusedMakeChangesNothing);
    }

    private static void promise4() {
        sentence("4: its number, 1 .. 60, as they come", EdgesOfMakingTest::recordNumbers);
        sentence("4: with a field that is v, the others 0", EdgesOfMakingTest::otherFieldsAreZero);
        sentence("4: 0 if there is no such field", EdgesOfMakingTest::recordOfNoField);
        sentence("4: 0 if there are 60", EdgesOfMakingTest::recordsAreFull);
        sentence("4: 0, and no number is taken", EdgesOfMakingTest::refusedRecordTakesNoNumber);
        sentence("4: 0, and nothing changes", EdgesOfMakingTest::refusedRecordChangesNothing);
    }

    private static void dueSteps(int asked, int held) {
        BatchClasses x = new BatchClasses(asked);
        due("just enough of " + asked, runOfSteps(x, held), 1);
        due("one more of " + asked, runOfSteps(x, held + 1), -4);
    }

    /** Runs a program that needs just so many steps. */
    private static int runOfSteps(BatchClasses x, int steps) {
        if (steps <= 2) {
            return steps == 1 ? run(x, x.record(0, 0), 13) : run(x, x.record(0, 0), 0, 13);
        }
        // Rounds of two acts until A is C, then the end, behind one act more if the steps are even.
        int record = x.record(2, (steps - 1) / 2);
        return steps % 2 == 0 ? run(x, record, 1, 6, 0, 13) : run(x, record, 1, 6, 13);
    }

    private static void stepsInRange() {
        for (int steps = 1; steps <= 200; steps++) {
            dueSteps(steps, steps);
        }
    }

    private static void stepsTooFew() {
        dueSteps(0, 1);
        dueSteps(-1, 1);
        dueSteps(-200, 1);
        dueSteps(Integer.MIN_VALUE, 1);
    }

    private static void stepsTooMany() {
        dueSteps(201, 200);
        dueSteps(202, 200);
        dueSteps(257, 200);
        dueSteps(Integer.MAX_VALUE, 200);
    }

    private static void stepsAreForOneRecord() {
        BatchClasses x = new BatchClasses(8);
        int of = classOf(x, 1);
        makeRecords(x, 60);
        due("all the steps for each record", x.resume(of), 0);
        due("all the steps for each run", x.run(of, 1), 1);
        due("value(60, 0)", x.value(60, 0), 1);
    }

    private static void nothingIsThere() {
        BatchClasses x = new BatchClasses(10);
        due("make(1)", x.make(1), -1);
        due("run(1, 1)", x.run(1, 1), -1);
        due("dry(1, 1)", x.dry(1, 1), -1);
        due("resume(1)", x.resume(1), -1);
        due("divide(1, 7, 2)", divided(x, 1, 7, 2), 0);
        due("divide(1, 7, 0)", divided(x, 1, 7, 0), 0);
        dueFields(x, 1, 0, 0, 0, 0);
        due("cell(1)", x.cell(1), 0);
        due("same(1, 1)", x.same(1, 1), false);
        due("same(0, 0)", x.same(0, 0), false);
        due("handle(1)", handleOf(x, 1), THROWN);
        due("handle(0)", handleOf(x, 0), THROWN);
        dueNoFailure(x, 0);
        due("the first type", x.type(0, false), 1);
        due("the first class", x.make(1), 1);
        due("the first record", x.record(0, 0), 1);
    }

    private static void objectsShareNothing() {
        BatchClasses x = new BatchClasses(10);
        int of = classOf(x, 8);
        x.run(of, x.record(0, 5));
        run(x, 1, 10);
        nothingIsThere();
        due("cell", x.cell(of), 5);
        due("value", x.value(1, 0), 5);
        dueFailure(x, 0, 1, 3, 2);
    }

    private static void typeNumbers() {
        BatchClasses x = new BatchClasses(10);
        int record = x.record(0, 0);
        for (int i = 1; i <= 20; i++) {
            due("type " + i, x.type(program(i <= 10 ? 1 : 2, 13), false), i);
        }
        for (int i = 1; i <= 20; i++) {
            due("make(" + i + ")", x.make(i), i);
            due("run", x.run(i, record), 1);
        }
        due("ten times one more, ten times twice", x.value(record, 0), 10 << 10);
    }

    private static void fillTypes(BatchClasses x) {
        for (int i = 1; i <= 19; i++) {
            x.type(program(1), false);
        }
        due("type 20", x.type(program(2), false), 20);
    }

    private static void typesAreFull() {
        BatchClasses x = new BatchClasses(10);
        fillTypes(x);
        due("type 21", x.type(program(3), false), 0);
        due("type 21, whose start fails", x.type(program(3), true), 0);
        due("type 21 again", x.type(program(2), false), 0);
        due("make(21)", x.make(21), -1);
        due("make(0)", x.make(0), -1);
    }

    private static void refusedTypeChangesNothing() {
        BatchClasses x = new BatchClasses(10);
        fillTypes(x);
        x.type(program(10), true);
        int first = x.make(1);
        int last = x.make(20);
        due("make(1)", first, 1);
        due("make(20)", last, 2);
        int record = x.record(0, 5);
        due("run of the first", x.run(first, record), 1);
        due("run of the last", x.run(last, record), 1);
        due("one more, then twice", x.value(record, 0), 12);
    }

    private static void classNumbers() {
        BatchClasses x = new BatchClasses(10);
        int type = x.type(program(8), false);
        makeRecords(x, 1);
        for (int i = 1; i <= 60; i++) {
            due("make " + i, x.make(type), i);
        }
        for (int i = 1; i <= 60; i++) {
            due("run(" + i + ", 1)", x.run(i, 1), 1);
        }
        due("done by all", handleOf(x, 1), 60);
    }

    private static void newCellIsZero() {
        BatchClasses x = new BatchClasses(10);
        int type = x.type(program(8), false);
        int record = x.record(0, 7);
        for (int i = 1; i <= 60; i++) {
            int of = x.make(type);
            due("cell of a new class", x.cell(of), 0);
            x.run(of, record);
            due("cell", x.cell(of), 7);
        }
    }

    private static void newClassHasDoneNothing() {
        BatchClasses x = new BatchClasses(10);
        int type = x.type(program(1), false);
        makeRecords(x, 3);
        int one = x.make(type);
        due("resume(one)", x.resume(one), 0);
        int two = x.make(type);
        due("resume(two) begins at the first", x.resume(two), 0);
        due("value(1, 0)", x.value(1, 0), 2);
        due("value(3, 0)", x.value(3, 0), 2);
        due("by two", handleOf(x, 3), 2);
    }

    private static void makeOfNoType() {
        BatchClasses x = new BatchClasses(10);
        x.type(0, false);
        x.type(0, false);
        for (int none : noNumbers(2)) {
            due("make(" + none + ")", x.make(none), -1);
        }
        due("make(20)", x.make(20), -1);
        due("make(21)", x.make(21), -1);
        due("make(2)", x.make(2), 1);
        x.type(0, false);
        due("make(3), which is there now", x.make(3), 2);
    }

    private static void makeWhoseStartFails() {
        BatchClasses x = new BatchClasses(10);
        for (int i = 1; i <= 20; i++) {
            x.type(0, i % 3 == 2);
        }
        int made = 0;
        for (int i = 1; i <= 20; i++) {
            made += i % 3 == 2 ? 0 : 1;
            due("make(" + i + ")", x.make(i), i % 3 == 2 ? -1 : made);
        }
        due("make(2) again", x.make(2), -1);
        dueNoFailure(x, 0);
    }

    private static void fillClasses(BatchClasses x, int type) {
        for (int i = 1; i <= 59; i++) {
            x.make(type);
        }
        due("make 60", x.make(type), 60);
    }

    private static void classesAreFull() {
        BatchClasses x = new BatchClasses(10);
        int type = x.type(0, false);
        int other = x.type(0, false);
        int failing = x.type(0, true);
        fillClasses(x, type);
        due("make 61", x.make(type), -1);
        due("make 61 of another type", x.make(other), -1);
        due("make 61 whose start fails", x.make(failing), -1);
        due("make 61 of no type", x.make(0), -1);
        due("make 61 again", x.make(type), -1);
        makeRecords(x, 1);
        due("run(61, 1)", x.run(61, 1), -1);
        due("resume(61)", x.resume(61), -1);
        due("same(61, 61)", x.same(61, 61), false);
    }

    private static void refusedMakeTakesNoNumber() {
        BatchClasses x = new BatchClasses(10);
        int type = x.type(0, false);
        int failing = x.type(0, true);
        for (int i = 1; i <= 60; i++) {
            due("make of no type", x.make(9), -1);
            due("make whose start fails", x.make(failing), -1);
            due("make " + i, x.make(type), i);
        }
    }

    private static void refusedMakeChangesNothing() {
        BatchClasses x = new BatchClasses(10);
        int type = x.type(program(8), false);
        int other = x.type(program(10), false);
        int record = x.record(0, 7);
        fillClasses(x, type);
        x.run(60, record);
        x.run(1, record);
        x.make(other);
        x.make(type);
        due("cell(1)", x.cell(1), 7);
        due("cell(60)", x.cell(60), 7);
        due("same(1, 60)", x.same(1, 60), true);
        due("run(60, 1)", x.run(60, record), 1);
        due("run(1, 1)", x.run(1, record), 1);
        due("done by two", handleOf(x, record), 2);
    }

    private static void recordNumbers() {
        BatchClasses x = new BatchClasses(10);
        for (int i = 1; i <= 60; i++) {
            due("record " + i, x.record(i % 4, 100 + i), i);
        }
        for (int i = 1; i <= 60; i++) {
            due("value(" + i + ", its field)", x.value(i, i % 4), 100 + i);
        }
    }

    private static void otherFieldsAreZero() {
        BatchClasses x = new BatchClasses(10);
        x.record(0, BIG);
        x.record(1, LEAST);
        x.record(2, -1);
        x.record(3, 1L << 32);
        x.record(3, 0);
        dueFields(x, 1, BIG, 0, 0, 0);
        dueFields(x, 2, 0, LEAST, 0, 0);
        dueFields(x, 3, 0, 0, -1, 0);
        dueFields(x, 4, 0, 0, 0, 1L << 32);
        dueFields(x, 5, 0, 0, 0, 0);
    }

    private static void recordOfNoField() {
        BatchClasses x = new BatchClasses(10);
        x.record(3, 7);
        for (int none : noFields()) {
            due("record(" + none + ", 9)", x.record(none, 9), 0);
        }
        dueFields(x, 1, 0, 0, 0, 7);
        due("record(0, 0)", x.record(0, 0), 2);
        dueFields(x, 2, 0, 0, 0, 0);
    }

    private static void recordsAreFull() {
        BatchClasses x = new BatchClasses(10);
        makeRecords(x, 59);
        due("record 60", x.record(3, 5), 60);
        due("record 61", x.record(0, 9), 0);
        due("record 61 of no field", x.record(4, 9), 0);
        due("record 61 again", x.record(3, 9), 0);
        due("run(of, 61)", x.run(classOf(x, 1), 61), -1);
        dueFields(x, 61, 0, 0, 0, 0);
    }

    private static void refusedRecordTakesNoNumber() {
        BatchClasses x = new BatchClasses(10);
        for (int i = 1; i <= 60; i++) {
            due("record of no field", x.record(i % 2 == 0 ? 4 : -1, 9), 0);
            due("record " + i, x.record(i % 4, 9), i);
        }
    }

    private static void refusedRecordChangesNothing() {
        BatchClasses x = new BatchClasses(10);
        makeRecords(x, 59);
        x.record(3, 5);
        x.record(0, 9);
        x.record(3, 9);
        dueFields(x, 1, 0, 0, 0, 0);
        dueFields(x, 60, 0, 0, 0, 5);
        int of = classOf(x, 1);
        due("resume", x.resume(of), 0);
        due("the last that was run", handleOf(x, 60), 1);
    }
}

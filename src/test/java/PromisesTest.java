/** For each promise of the document: ordinary inputs, the edges it names, and wrong inputs. */
public final class PromisesTest extends Checks {
    public static void main(String[] args) {
        sentence("promise 1, new object", PromisesTest::promise1NewObject);
        sentence("promise 1, steps", PromisesTest::promise1StepsAreBound);
        sentence("promise 2", PromisesTest::promise2Type);
        sentence("promise 3", PromisesTest::promise3Make);
        sentence("promise 4", PromisesTest::promise4Record);
        sentence("promise 5, answers", PromisesTest::promise5RunAnswers);
        sentence("promise 5, acts on fields", PromisesTest::promise5ActsOnFields);
        sentence("promise 5, acts on the cell", PromisesTest::promise5ActsOnTheCell);
        sentence("promise 5, division", PromisesTest::promise5Division);
        sentence("promise 5, 64 bits", PromisesTest::promise5Sums64Bits);
        sentence("promise 5, steering", PromisesTest::promise5Steering);
        sentence("promise 5, steps", PromisesTest::promise5Steps);
        sentence("promise 5, failures", PromisesTest::promise5FailuresTakeBack);
        sentence("promise 5, locks", PromisesTest::promise5Locks);
        sentence("promise 6", PromisesTest::promise6Value);
        sentence("promise 7", PromisesTest::promise7Failed);
        sentence("promise 7, the first 100", PromisesTest::promise7KeepsTheFirstHundred);
        sentence("promise 8", PromisesTest::promise8Cell);
        sentence("promise 9", PromisesTest::promise9Same);
        sentence("promise 10", PromisesTest::promise10Resume);
        sentence("promise 10, the greatest", PromisesTest::promise10ResumeGoesOnBehindTheGreatest);
        sentence("promise 10, locked", PromisesTest::promise10ResumeStopsAtLocked);
        sentence("promise 11", PromisesTest::promise11Divide);
        sentence("promise 12", PromisesTest::promise12Dry);
        sentence("promise 12, nothing is changed", PromisesTest::promise12DryChangesNothing);
        sentence("promise 13", PromisesTest::promise13Handle);
        sentence("promise 13, other calls", PromisesTest::promise13HandleAfterOtherCalls);
        end();
    }

    private static void promise1NewObject() {
        BatchClasses x = new BatchClasses(10);
        due("NONE", BatchClasses.NONE, -1);
        due("make(1)", x.make(1), -1);
        due("run(1, 1)", x.run(1, 1), -1);
        due("dry(1, 1)", x.dry(1, 1), -1);
        due("value(1, 0)", x.value(1, 0), 0);
        due("failed(0, 0)", x.failed(0, 0), -1);
        due("cell(1)", x.cell(1), 0);
        due("same(1, 1)", x.same(1, 1), false);
        due("resume(1)", x.resume(1), -1);
        due("handle(1)", handleOf(x, 1), THROWN);
        due("handle(0)", handleOf(x, 0), THROWN);
    }

    private static void promise1StepsAreBound() {
        int[] asked = {Integer.MIN_VALUE, -1, 0, 1, 2, 100, 199, 200, 201, Integer.MAX_VALUE};
        int[] held = {1, 1, 1, 1, 2, 100, 199, 200, 200, 200};
        for (int i = 0; i < asked.length; i++) {
            BatchClasses x = new BatchClasses(asked[i]);
            due("just enough of " + asked[i], runOfSteps(x, held[i]), 1);
            due("one too many of " + asked[i], runOfSteps(x, held[i] + 1), -4);
        }
    }

    /** Runs a program that needs just so many steps. */
    private static int runOfSteps(BatchClasses x, int steps) {
        if (steps <= 2) {
            return x.run(steps == 1 ? classOf(x, 13) : classOf(x, 0, 13), x.record(0, 0));
        }
        // Rounds of two acts until A is C, then the end, behind one act more if the steps are even.
        int rounds = (steps - 1) / 2;
        int of = steps % 2 == 0 ? classOf(x, 1, 6, 0, 13) : classOf(x, 1, 6, 13);
        return x.run(of, x.record(2, rounds));
    }

    private static void promise2Type() {
        BatchClasses x = new BatchClasses(10);
        for (int i = 1; i <= 20; i++) {
            due("type " + i, x.type(i == 20 ? 1 : 0, i % 2 == 0 && i != 20), i);
        }
        due("type 21", x.type(2, false), 0);
        due("type 22", x.type(2, true), 0);
        due("make(21)", x.make(21), -1);
        due("make(20)", x.make(20), 1);
        due("make(18)", x.make(18), -1);
        due("record", x.record(0, 4), 1);
        due("run", x.run(1, 1), 1);
        due("value", x.value(1, 0), 5);
    }

    private static void promise3Make() {
        BatchClasses x = new BatchClasses(10);
        x.type(program(8), false);
        x.type(program(8), true);
        x.record(0, 5);
        for (int type : NO_NUMBERS) {
            due("make(" + type + ")", x.make(type), -1);
        }
        due("make(3)", x.make(3), -1);
        due("make(1)", x.make(1), 1);
        due("make(2), whose start fails", x.make(2), -1);
        due("run(1, 1)", x.run(1, 1), 1);
        due("make(1) again", x.make(1), 2);
        due("cell(1)", x.cell(1), 5);
        due("cell(2)", x.cell(2), 0);
        due("resume(2), no record was done", x.resume(2), 0);
        due("cell(2)", x.cell(2), 5);
        for (int i = 3; i <= 60; i++) {
            due("make " + i, x.make(1), i);
        }
        due("make 61", x.make(1), -1);
        due("make 61 again", x.make(1), -1);
        due("run(60, 1)", x.run(60, 1), 1);
        due("run(61, 1)", x.run(61, 1), -1);
    }

    private static void promise4Record() {
        BatchClasses x = new BatchClasses(10);
        due("record(0, 7)", x.record(0, 7), 1);
        for (int field : new int[] {-1, 4, 5, Integer.MIN_VALUE, Integer.MAX_VALUE}) {
            due("record(" + field + ", 1)", x.record(field, 1), 0);
        }
        due("record(1, -8)", x.record(1, -8), 2);
        due("record(2, BIG)", x.record(2, BIG), 3);
        due("record(3, LEAST)", x.record(3, LEAST), 4);
        dueFields(x, 1, 7, 0, 0, 0);
        dueFields(x, 2, 0, -8, 0, 0);
        dueFields(x, 3, 0, 0, BIG, 0);
        dueFields(x, 4, 0, 0, 0, LEAST);
        for (int i = 5; i <= 60; i++) {
            due("record " + i, x.record(i % 4, i), i);
        }
        due("record 61", x.record(0, 1), 0);
        dueFields(x, 60, 60, 0, 0, 0);
        dueFields(x, 61, 0, 0, 0, 0);
    }

    private static void promise5RunAnswers() {
        BatchClasses x = new BatchClasses(8);
        int fine = classOf(x, 1);
        int divides = classOf(x, 4);
        int fails = classOf(x, 10);
        int endless = classOf(x, 1, 6);
        int locks = classOf(x, 7);
        int record = x.record(2, 100);
        due("run(fine)", x.run(fine, record), 1);
        due("run(divides)", x.run(divides, record), -2);
        due("run(fails)", x.run(fails, record), -3);
        due("run(endless)", x.run(endless, record), -4);
        due("run(locks)", x.run(locks, record), 1);
        due("run(fine), locked", x.run(fine, record), -5);
        for (int none : NO_NUMBERS) {
            due("run(" + none + ", record)", x.run(none, record), -1);
            due("run(fine, " + none + ")", x.run(fine, none), -1);
            due("run(" + none + ", " + none + ")", x.run(none, none), -1);
        }
        due("run(6, record)", x.run(6, record), -1);
        due("run(fine, 2)", x.run(fine, 2), -1);
        dueFailure(x, 3, record, 5, fine);
        dueFailure(x, 4, -1, -1, -1);
    }

    private static void promise5ActsOnFields() {
        BatchClasses x = new BatchClasses(20);
        int r = recordOf(x, 6, 4, 0, 0);
        due("acts 0 14 15", x.run(classOf(x, 0, 14, 15, 0, 0, 0, 0, 15), r), 1);
        dueFields(x, r, 6, 4, 0, 0);
        due("act 1", x.run(classOf(x, 1), r), 1);
        dueFields(x, r, 7, 4, 0, 0);
        due("act 2", x.run(classOf(x, 2), r), 1);
        dueFields(x, r, 14, 4, 0, 0);
        due("act 5", x.run(classOf(x, 5), r), 1);
        dueFields(x, r, 4, 14, 0, 0);
        due("act 12", x.run(classOf(x, 12), r), 1);
        dueFields(x, r, 4, 14, 0, 4);
        due("act 11", x.run(classOf(x, 11), r), 1);
        dueFields(x, r, 4, 14, 4, 4);
        due("acts 1 12", x.run(classOf(x, 1, 12), r), 1);
        dueFields(x, r, 5, 14, 4, 1);
        due("act 3", x.run(classOf(x, 3), r), 1);
        dueFields(x, r, 5, 5, 4, 1);
        due("act 4", x.run(classOf(x, 1, 2, 4), r), 1);
        dueFields(x, r, 2, 5, 4, 1);
        due("eighth act", x.run(classOf(x, 0, 0, 0, 0, 0, 0, 0, 1), r), 1);
        dueFields(x, r, 3, 5, 4, 1);
    }

    private static void promise5ActsOnTheCell() {
        BatchClasses x = new BatchClasses(20);
        int sums = classOf(x, 8, 8);
        int takes = classOf(x, 9, 1, 8);
        int r = x.record(0, 3);
        due("act 8 twice", x.run(sums, r), 1);
        due("cell(sums)", x.cell(sums), 6);
        due("act 8 twice again", x.run(sums, r), 1);
        due("cell(sums)", x.cell(sums), 12);
        dueFields(x, r, 3, 0, 0, 0);
        due("acts 9 1 8", x.run(takes, r), 1);
        dueFields(x, r, 1, 0, 0, 0);
        due("cell(takes)", x.cell(takes), 1);
        due("acts 9 1 8 again", x.run(takes, r), 1);
        dueFields(x, r, 2, 0, 0, 0);
        due("cell(takes)", x.cell(takes), 3);
        due("cell(sums)", x.cell(sums), 12);
    }

    private static void promise5Division() {
        long[] tops = {7, -7, 7, -7, 0, LEAST, LEAST, BIG, 1};
        long[] bys = {2, 2, -2, -2, 5, -1, 1, LEAST, BIG};
        long[] cut = {3, -3, -3, 3, 0, LEAST, LEAST, 0, 0};
        for (int i = 0; i < tops.length; i++) {
            BatchClasses x = new BatchClasses(8);
            int r = recordOf(x, tops[i], bys[i], 0, 0);
            due("run", x.run(classOf(x, 4), r), 1);
            dueFields(x, r, cut[i], bys[i], 0, 0);
        }
    }

    private static void promise5Sums64Bits() {
        BatchClasses x = new BatchClasses(8);
        int r = x.record(0, BIG);
        due("act 1", x.run(classOf(x, 1), r), 1);
        dueFields(x, r, LEAST, 0, 0, 0);
        due("act 2", x.run(classOf(x, 2), r), 1);
        dueFields(x, r, 0, 0, 0, 0);
        int sums = classOf(x, 8, 8);
        due("act 8 twice", x.run(sums, x.record(0, BIG)), 1);
        due("cell", x.cell(sums), -2);
        int least = x.record(2, LEAST);
        due("act 12", x.run(classOf(x, 12), least), 1);
        dueFields(x, least, 0, 0, LEAST, LEAST);
    }

    private static void promise5Steering() {
        BatchClasses x = new BatchClasses(200);
        int r = x.record(2, 5);
        due("act 6", x.run(classOf(x, 1, 6), r), 1);
        dueFields(x, r, 5, 0, 5, 0);
        due("act 6, A is C", x.run(classOf(x, 6, 1), r), 1);
        dueFields(x, r, 6, 0, 5, 0);
        due("act 6, A above C", x.run(classOf(x, 6, 1), r), 1);
        dueFields(x, r, 7, 0, 5, 0);
        due("act 13", x.run(classOf(x, 1, 13, 1, 1, 10), r), 1);
        dueFields(x, r, 8, 0, 5, 0);
        int last = x.record(2, 3);
        due("act 6 as the eighth", x.run(classOf(x, 1, 0, 0, 0, 0, 0, 0, 6), last), 1);
        dueFields(x, last, 3, 0, 3, 0);
        int below = x.record(0, LEAST);
        due("act 6, far below", x.run(classOf(x, 1, 6), below), -4);
        dueFields(x, below, LEAST, 0, 0, 0);
        int above = x.record(2, LEAST);
        due("act 6, far above", x.run(classOf(x, 6, 1), above), 1);
        dueFields(x, above, 1, 0, LEAST, 0);
    }

    private static void promise5Steps() {
        BatchClasses eight = new BatchClasses(8);
        int r = eight.record(0, 1);
        due("eight acts of eight", eight.run(classOf(eight, 1, 1, 1, 1, 1, 1, 1, 1), r), 1);
        dueFields(eight, r, 9, 0, 0, 0);
        BatchClasses seven = new BatchClasses(7);
        int s = seven.record(0, 1);
        due("eight acts of seven", seven.run(classOf(seven, 1, 1, 1, 1, 1, 1, 1, 1), s), -4);
        due("an end as the eighth of seven", seven.run(classOf(seven, 1, 1, 1, 1, 1, 1, 1, 13), s), -4);
        due("a failure as the eighth of seven", seven.run(classOf(seven, 1, 1, 1, 1, 1, 1, 1, 10), s), -4);
        due("a division as the eighth of seven", seven.run(classOf(seven, 1, 1, 1, 1, 1, 1, 1, 4), s), -4);
        dueFields(seven, s, 1, 0, 0, 0);
        due("an end as the seventh of seven", seven.run(classOf(seven, 1, 1, 1, 1, 1, 1, 13), s), 1);
        dueFields(seven, s, 7, 0, 0, 0);
        due("a failure as the seventh of seven", seven.run(classOf(seven, 1, 1, 1, 1, 1, 1, 10), s), -3);
        due("steps are for one record", seven.run(classOf(seven, 0, 0, 0, 0, 0, 0, 13), s), 1);
    }

    private static void promise5FailuresTakeBack() {
        int[] lastActs = {4, 10, 6};
        int[] kinds = {2, 3, 4};
        for (int i = 0; i < lastActs.length; i++) {
            BatchClasses x = new BatchClasses(50);
            // B stays 0 so that act 4 fails; A 1 is below C so that act 6 never ends.
            int of = classOf(x, 9, 12, 1, 8, 7, lastActs[i]);
            int r = x.record(2, BIG);
            due("run", x.run(of, r), -kinds[i]);
            dueFields(x, r, 0, 0, BIG, 0);
            due("cell", x.cell(of), 0);
            dueFailure(x, 0, r, kinds[i], of);
            due("not locked", x.run(classOf(x, 1), r), 1);
            due("failed once", x.failed(1, 0), -1);
        }
    }

    private static void promise5Locks() {
        BatchClasses x = new BatchClasses(50);
        int of = classOf(x, 1, 7, 1);
        int r = x.record(0, 1);
        int free = x.record(0, 1);
        due("run", x.run(of, r), 1);
        due("acts behind the lock are done", x.value(r, 0), 3);
        due("run again", x.run(of, r), -5);
        dueFields(x, r, 3, 0, 0, 0);
        due("one record alone is locked", x.run(of, free), 1);
        dueFailure(x, 0, r, 5, of);
        due("failed once", x.failed(1, 0), -1);
        int fails = classOf(x, 10);
        due("locked before it could fail", x.run(fails, r), -5);
        dueFailure(x, 1, r, 5, fails);
    }

    private static void promise6Value() {
        BatchClasses x = new BatchClasses(10);
        int r = x.record(0, 5);
        x.record(0, 6);
        for (int none : NO_NUMBERS) {
            due("value(" + none + ", 0)", x.value(none, 0), 0);
        }
        for (int field : new int[] {-1, 4, 5, Integer.MIN_VALUE, Integer.MAX_VALUE}) {
            due("value(1, " + field + ")", x.value(r, field), 0);
        }
        due("value(3, 0)", x.value(3, 0), 0);
        due("value(2, -4)", x.value(2, -4), 0);
        dueFields(x, r, 5, 0, 0, 0);
    }

    private static void promise7Failed() {
        BatchClasses x = new BatchClasses(10);
        int divides = classOf(x, 4);
        int fails = classOf(x, 10);
        x.record(0, 1);
        x.record(0, 2);
        x.run(fails, 2);
        x.run(divides, 1);
        x.run(9, 1);
        x.run(fails, 9);
        dueFailure(x, 0, 2, 3, fails);
        dueFailure(x, 1, 1, 2, divides);
        dueFailure(x, 2, -1, -1, -1);
        for (int i : new int[] {-1, 100, 101, Integer.MIN_VALUE, Integer.MAX_VALUE}) {
            dueFailure(x, i, -1, -1, -1);
        }
        for (int what : new int[] {-1, 3, 4, Integer.MIN_VALUE, Integer.MAX_VALUE}) {
            due("failed(0, " + what + ")", x.failed(0, what), -1);
        }
    }

    private static void promise7KeepsTheFirstHundred() {
        BatchClasses x = new BatchClasses(10);
        int fails = classOf(x, 10);
        int divides = classOf(x, 4);
        x.record(0, 1);
        x.record(0, 2);
        for (int i = 0; i < 99; i++) {
            due("run " + i, x.run(fails, 1), -3);
        }
        dueFailure(x, 99, -1, -1, -1);
        due("run 99", x.run(divides, 2), -2);
        due("run 100", x.run(fails, 1), -3);
        due("run 101", x.run(fails, 2), -3);
        dueFailure(x, 0, 1, 3, fails);
        dueFailure(x, 98, 1, 3, fails);
        dueFailure(x, 99, 2, 2, divides);
        dueFailure(x, 100, -1, -1, -1);
        dueFailure(x, 101, -1, -1, -1);
    }

    private static void promise8Cell() {
        BatchClasses x = new BatchClasses(10);
        int type = x.type(program(8), false);
        int one = x.make(type);
        int two = x.make(type);
        x.record(0, LEAST);
        x.record(0, 9);
        x.run(one, 1);
        x.run(two, 2);
        due("cell(one)", x.cell(one), LEAST);
        due("cell(two), of the same type", x.cell(two), 9);
        due("cell(3)", x.cell(3), 0);
        for (int none : NO_NUMBERS) {
            due("cell(" + none + ")", x.cell(none), 0);
        }
    }

    private static void promise9Same() {
        BatchClasses x = new BatchClasses(10);
        int type = x.type(program(1), false);
        int twin = x.type(program(1), false);
        int a = x.make(type);
        int b = x.make(twin);
        int c = x.make(type);
        due("same(a, c)", x.same(a, c), true);
        due("same(c, a)", x.same(c, a), true);
        due("same(a, a)", x.same(a, a), true);
        due("same(a, b), two types of one program", x.same(a, b), false);
        due("same(b, c)", x.same(b, c), false);
        due("same(4, 4)", x.same(4, 4), false);
        for (int none : NO_NUMBERS) {
            due("same(a, " + none + ")", x.same(a, none), false);
            due("same(" + none + ", a)", x.same(none, a), false);
            due("same(" + none + ", " + none + ")", x.same(none, none), false);
        }
    }

    private static void promise10Resume() {
        BatchClasses x = new BatchClasses(10);
        int of = classOf(x, 9, 1, 8);
        due("resume, no records", x.resume(of), 0);
        for (int i = 1; i <= 3; i++) {
            x.record(0, 50);
        }
        due("resume", x.resume(of), 0);
        due("in order, 1", x.value(1, 0), 1);
        due("in order, 2", x.value(2, 0), 2);
        due("in order, 3", x.value(3, 0), 4);
        due("resume at the end", x.resume(of), 0);
        due("nothing is run twice", x.cell(of), 7);
        x.record(0, 50);
        due("resume, one record more", x.resume(of), 0);
        due("the record more", x.value(4, 0), 8);
        due("no failure", x.failed(0, 0), -1);
        for (int none : NO_NUMBERS) {
            due("resume(" + none + ")", x.resume(none), -1);
        }
        due("resume(2)", x.resume(2), -1);
        int other = classOf(x, 1);
        for (int i = 5; i <= 60; i++) {
            x.record(0, 50);
        }
        due("resume over sixty", x.resume(other), 0);
        due("the first", x.value(1, 0), 2);
        due("the last", x.value(60, 0), 51);
    }

    private static void promise10ResumeGoesOnBehindTheGreatest() {
        BatchClasses x = new BatchClasses(10);
        int of = classOf(x, 1, 4);
        int other = classOf(x, 3);
        for (int i = 1; i <= 6; i++) {
            x.record(1, i == 5 ? 0 : 1);
        }
        due("run(of, 3)", x.run(of, 3), 1);
        due("run(of, 2)", x.run(of, 2), 1);
        due("resume", x.resume(of), 5);
        dueFailure(x, 0, 5, 2, of);
        due("record 1 is passed over", x.value(1, 0), 0);
        due("record 2 is run once", x.value(2, 0), 1);
        due("record 3 is run once", x.value(3, 0), 1);
        due("record 4 is run", x.value(4, 0), 1);
        due("record 5 is as it was", x.value(5, 0), 0);
        due("record 6 is not reached", x.value(6, 0), 0);
        due("resume again", x.resume(of), 5);
        dueFailure(x, 1, 5, 2, of);
        due("record 4 is not run again", x.value(4, 0), 1);
        due("run(of, 6)", x.run(of, 6), 1);
        due("resume behind 6", x.resume(of), 0);
        due("failed twice", x.failed(2, 0), -1);
        due("the other class begins at 1", x.resume(other), 0);
        due("record 1 by the other", x.value(1, 1), 0);
    }

    private static void promise10ResumeStopsAtLocked() {
        BatchClasses x = new BatchClasses(10);
        int locks = classOf(x, 7);
        int of = classOf(x, 1);
        for (int i = 1; i <= 3; i++) {
            x.record(0, 0);
        }
        x.run(locks, 2);
        due("resume", x.resume(of), 2);
        dueFailure(x, 0, 2, 5, of);
        due("record 1 is run", x.value(1, 0), 1);
        due("record 3 is not reached", x.value(3, 0), 0);
        due("resume again", x.resume(of), 2);
        dueFailure(x, 1, 2, 5, of);
        due("a class that locks goes on behind its own", x.resume(locks), 0);
        due("record 3 is locked by it", x.run(of, 3), -5);
        due("record 1 is behind the greatest", x.run(of, 1), 1);
    }

    private static void promise11Divide() {
        BatchClasses x = new BatchClasses(1);
        int of = classOf(x, 8, 13);
        due("divide(7, 2)", divided(x, of, 7, 2), 3);
        due("divide(-7, 2)", divided(x, of, -7, 2), -3);
        due("divide(7, -2)", divided(x, of, 7, -2), -3);
        due("divide(-7, -2)", divided(x, of, -7, -2), 3);
        due("divide(0, 3)", divided(x, of, 0, 3), 0);
        due("divide(LEAST, -1)", divided(x, of, LEAST, -1), LEAST);
        due("divide(BIG, LEAST)", divided(x, of, BIG, LEAST), 0);
        due("divide(7, 0)", divided(x, of, 7, 0), THROWN);
        due("divide(0, 0)", divided(x, of, 0, 0), THROWN);
        for (int none : NO_NUMBERS) {
            due("divide(" + none + ", 7, 2)", divided(x, none, 7, 2), 0);
            due("divide(" + none + ", 7, 0)", divided(x, none, 7, 0), 0);
        }
        due("divide(2, 7, 0)", divided(x, 2, 7, 0), 0);
        due("cell", x.cell(of), 0);
        due("failed(0, 0)", x.failed(0, 0), -1);
    }

    private static void promise12Dry() {
        BatchClasses x = new BatchClasses(10);
        int r = x.record(0, 5);
        due("none is another", x.dry(classOf(x, 0), r), 0);
        due("A", x.dry(classOf(x, 1), r), 1);
        due("B", x.dry(classOf(x, 3), r), 1);
        due("D", x.dry(classOf(x, 12), r), 1);
        due("A and B", x.dry(classOf(x, 5), r), 2);
        due("C and D", x.dry(classOf(x, 12, 11), r), 2);
        due("all four", x.dry(classOf(x, 12, 11, 5), r), 4);
        due("there and back", x.dry(classOf(x, 5, 5), r), 0);
        due("a lock is no field", x.dry(classOf(x, 7), r), 0);
        due("the cell is no field", x.dry(classOf(x, 8), r), 0);
        due("a division by 0", x.dry(classOf(x, 1, 4), r), -2);
        due("a failure", x.dry(classOf(x, 1, 10), r), -3);
        int low = x.record(2, BIG);
        due("too many steps", x.dry(classOf(x, 1, 6), low), -4);
        int locks = classOf(x, 7);
        x.run(locks, r);
        due("locked", x.dry(locks, r), -5);
        for (int none : NO_NUMBERS) {
            due("dry(" + none + ", r)", x.dry(none, r), -1);
            due("dry(locks, " + none + ")", x.dry(locks, none), -1);
        }
        due("no failures", x.failed(0, 0), -1);
    }

    private static void promise12DryChangesNothing() {
        BatchClasses x = new BatchClasses(10);
        int of = classOf(x, 1, 8, 12, 11, 5, 7);
        int fails = classOf(x, 10);
        int first = x.record(0, 5);
        int other = x.record(0, 5);
        due("dry", x.dry(of, first), 4);
        due("handle, nothing was run", handleOf(x, first), THROWN);
        due("dry again", x.dry(of, first), 4);
        dueFields(x, first, 5, 0, 0, 0);
        due("cell", x.cell(of), 0);
        due("run", x.run(of, first), 1);
        due("cell", x.cell(of), 6);
        due("dry of another", x.dry(of, other), 4);
        due("cell", x.cell(of), 6);
        due("dry failing", x.dry(fails, other), -3);
        due("dry locked", x.dry(of, first), -5);
        due("failed", x.failed(0, 0), -1);
        due("handle of the one that was run", handleOf(x, first), 1);
        due("handle of the dry one", handleOf(x, other), THROWN);
        due("resume runs the dry one", x.resume(of), 0);
        due("it is changed now", x.value(other, 1), 6);
    }

    private static void promise13Handle() {
        BatchClasses x = new BatchClasses(10);
        int one = classOf(x, 1);
        int two = classOf(x, 1);
        int fails = classOf(x, 10);
        x.record(0, 1);
        x.record(0, 1);
        due("nothing was run", handleOf(x, 1), THROWN);
        x.run(one, 1);
        due("by one", handleOf(x, 1), 1);
        due("asked again", handleOf(x, 1), 1);
        due("another record", handleOf(x, 2), THROWN);
        for (int none : NO_NUMBERS) {
            due("handle(" + none + ")", handleOf(x, none), THROWN);
        }
        x.run(one, 1);
        due("by one, twice", handleOf(x, 1), 1);
        x.run(two, 1);
        due("by two", handleOf(x, 1), 2);
        x.run(one, 2);
        due("the record before", handleOf(x, 1), THROWN);
        due("the latest", handleOf(x, 2), 1);
        x.run(fails, 1);
        due("not done then", handleOf(x, 1), THROWN);
        due("not the latest", handleOf(x, 2), THROWN);
        x.run(one, 1);
        due("done again", handleOf(x, 1), 2);
    }

    private static void promise13HandleAfterOtherCalls() {
        BatchClasses x = new BatchClasses(10);
        int type = x.type(program(1), false);
        for (int i = 1; i <= 60; i++) {
            x.make(type);
        }
        x.record(0, 1);
        for (int i = 1; i <= 60; i++) {
            x.run(i, 1);
            due("by so many", handleOf(x, 1), i);
        }
        x.run(61, 1);
        due("no such class, nothing was run", handleOf(x, 1), 60);
        x.run(1, 2);
        due("no such record, nothing was run", handleOf(x, 1), 60);
        due("resume, nothing to run", x.resume(1), 0);
        due("the latest is the same", handleOf(x, 1), 60);
        x.record(0, 1);
        x.record(0, 1);
        due("resume", x.resume(1), 0);
        due("the last that resume ran", handleOf(x, 3), 1);
        due("not the first that resume ran", handleOf(x, 2), THROWN);
        int locks = x.type(program(7), false);
        due("sixty classes are there", x.make(locks), -1);
        BatchClasses y = new BatchClasses(10);
        int locking = classOf(y, 7);
        y.record(0, 1);
        y.run(locking, 1);
        due("locked and done", handleOf(y, 1), 1);
        y.run(locking, 1);
        due("locked, not done then", handleOf(y, 1), THROWN);
        y.record(0, 1);
        y.record(0, 1);
        int divides = classOf(y, 4);
        y.run(locking, 2);
        due("done", handleOf(y, 2), 1);
        due("resume stops at the first", y.resume(divides), 1);
        due("the latest was not done", handleOf(y, 1), THROWN);
        due("the done one is not the latest", handleOf(y, 2), THROWN);
    }
}

/** The sentences of promises 5, 10, 12 and 13 that name an edge: run, resume, dry and handle. */
public final class EdgesOfRunningTest extends Checks {
    private static final int[] DIVIDES = {4};
    private static final int[] FAILS = {10};
    private static final int[] LASTS = {1, 6};

    public static void main(String[] args) {
        promise5();
        promise10();
        promise12();
        promise13();
        end();
    }

    private static void promise5() {
        sentence("5: 1", EdgesOfRunningTest::runIsDone);
        sentence("5: less 1, there is no such class", EdgesOfRunningTest::runOfNoClass);
        sentence("5: less 1, there is no such record", EdgesOfRunningTest::runOnNoRecord);
        sentence("5: 1 is no FAILURE", EdgesOfRunningTest::absenceIsNoFailure);
        sentence("5: 2 to 4 it FAILS", EdgesOfRunningTest::runFails);
        sentence("5: 5 the record is LOCKED", EdgesOfRunningTest::runOnLocked);
        sentence("5: LOCKED is a FAILURE, too", EdgesOfRunningTest::lockedIsFailure);
        sentence("5: LOCKED, before the program is begun", EdgesOfRunningTest::lockedComesFirst);
        sentence("5: DONE if the answer is 1", EdgesOfRunningTest::doneIfOne);
        sentence("5: not DONE if it is another", EdgesOfRunningTest::notDoneIfLess);
    }

    private static void promise10() {
        sentence("10: all records, in order", EdgesOfRunningTest::resumeRunsInOrder);
        sentence("10: behind the greatest one that is DONE", EdgesOfRunningTest::resumeBehindTheGreatest);
        sentence("10: DONE by it, not by another", EdgesOfRunningTest::resumeIsOfOneClass);
        sentence("10: until one FAILS", EdgesOfRunningTest::resumeStopsWhereOneFails);
        sentence("10: until one is LOCKED (which is a FAILURE)", EdgesOfRunningTest::resumeStopsAtLocked);
        sentence("10: goes on where it was stopped", EdgesOfRunningTest::resumeGoesOn);
        sentence("10: or 0 at the end", EdgesOfRunningTest::resumeAtTheEnd);
        sentence("10: 0, there are no records", EdgesOfRunningTest::resumeWithoutRecords);
        sentence("10: of the first and the last of 60", EdgesOfRunningTest::resumeOverSixty);
        sentence("10: NONE if there is no such class", EdgesOfRunningTest::resumeOfNoClass);
    }

    private static void promise12() {
        sentence("12: how many of the record's fields would be others", EdgesOfRunningTest::dryCounts);
        sentence("12: fields that would be others, of 64 bits", EdgesOfRunningTest::dryComparesAllBits);
        sentence("12: or less the kind, as in run", EdgesOfRunningTest::dryFails);
        sentence("12: less 1, no such class or record", EdgesOfRunningTest::dryOfNone);
        sentence("12: less 5, the record is LOCKED", EdgesOfRunningTest::dryOnLocked);
        sentence("12: nothing is changed", EdgesOfRunningTest::dryChangesNothing);
        sentence("12: nothing counts as FAILURE", EdgesOfRunningTest::dryIsNoFailure);
        sentence("12: nothing counts as DONE", EdgesOfRunningTest::dryIsNotDone);
    }

    private static void promise13() {
        sentence("13: how many classes it is DONE by", EdgesOfRunningTest::handleCountsClasses);
        sentence("13: each class counts once", EdgesOfRunningTest::handleCountsEachOnce);
        sentence("13: the record that was run latest, by resume", EdgesOfRunningTest::handleBehindResume);
        sentence("13: IllegalStateException if it is another", EdgesOfRunningTest::handleOfAnother);
        sentence("13: IllegalStateException if there is no such", EdgesOfRunningTest::handleOfNone);
        sentence("13: IllegalStateException if nothing was run", EdgesOfRunningTest::handleBeforeAnyRun);
        sentence("13: IllegalStateException if it was not DONE then", EdgesOfRunningTest::handleOfNotDone);
        sentence("13: not DONE then, by resume", EdgesOfRunningTest::handleWhereResumeStopped);
        sentence("13: calls that run nothing leave it", EdgesOfRunningTest::handleBehindNoRun);
    }

    /** A record on which the programs above fail, each with its kind. */
    private static int recordToFail(BatchClasses x) {
        return x.record(2, BIG);
    }

    private static int[] failing(int kind) {
        return kind == 2 ? DIVIDES : kind == 3 ? FAILS : LASTS;
    }

    private static void runIsDone() {
        BatchClasses x = new BatchClasses(10);
        int record = x.record(0, 5);
        due("a program that changes a field", run(x, record, 1), 1);
        due("a program that changes nothing", run(x, record, 0), 1);
        due("a program that ends at once", run(x, record, 13), 1);
        due("a program that locks", run(x, record, 7), 1);
        due("value", x.value(record, 0), 6);
        dueNoFailure(x, 0);
    }

    private static void runOfNoClass() {
        BatchClasses x = new BatchClasses(10);
        int record = x.record(0, 5);
        x.type(program(1), false);
        due("a type is no class", x.run(1, record), -1);
        x.make(1);
        for (int none : noNumbers(1)) {
            due("run(" + none + ", record)", x.run(none, record), -1);
        }
        due("value", x.value(record, 0), 5);
    }

    private static void runOnNoRecord() {
        BatchClasses x = new BatchClasses(10);
        int of = classOf(x, 1, 8);
        for (int none : noNumbers(0)) {
            due("run(of, " + none + "), no records", x.run(of, none), -1);
        }
        x.record(0, 5);
        for (int none : noNumbers(1)) {
            due("run(of, " + none + ")", x.run(of, none), -1);
            due("run(" + none + ", " + none + ")", x.run(none, none), -1);
        }
        due("value", x.value(1, 0), 5);
        due("cell", x.cell(of), 0);
    }

    private static void absenceIsNoFailure() {
        BatchClasses x = new BatchClasses(10);
        int fails = classOf(x, FAILS);
        x.record(0, 5);
        for (int none : noNumbers(1)) {
            x.run(fails, none);
            x.run(none, 1);
            x.resume(none);
        }
        dueNoFailure(x, 0);
        x.run(fails, 1);
        dueFailure(x, 0, 1, 3, fails);
        dueNoFailure(x, 1);
    }

    private static void runFails() {
        for (int kind = 2; kind <= 4; kind++) {
            BatchClasses x = new BatchClasses(10);
            int of = classOf(x, failing(kind));
            int record = recordToFail(x);
            due("run", x.run(of, record), -kind);
            dueFailure(x, 0, record, kind, of);
            due("run again", x.run(of, record), -kind);
            dueFailure(x, 1, record, kind, of);
            dueNoFailure(x, 2);
        }
    }

    private static void runOnLocked() {
        BatchClasses x = new BatchClasses(10);
        int locks = classOf(x, 8, 7);
        int other = classOf(x, 1, 8);
        int record = x.record(0, 5);
        x.run(locks, record);
        due("by the class that locked it", x.run(locks, record), -5);
        due("by another", x.run(other, record), -5);
        due("by one made later", run(x, record, 1), -5);
        due("value", x.value(record, 0), 5);
        due("cell(locks)", x.cell(locks), 5);
        due("cell(other)", x.cell(other), 0);
    }

    private static void lockedIsFailure() {
        BatchClasses x = new BatchClasses(10);
        int locks = classOf(x, 7);
        int other = classOf(x, 1);
        makeRecords(x, 2);
        x.run(locks, 2);
        dueNoFailure(x, 0);
        x.run(other, 2);
        dueFailure(x, 0, 2, 5, other);
        x.run(locks, 2);
        dueFailure(x, 1, 2, 5, locks);
        dueNoFailure(x, 2);
    }

    private static void lockedComesFirst() {
        for (int kind = 2; kind <= 4; kind++) {
            BatchClasses x = new BatchClasses(10);
            int record = recordToFail(x);
            run(x, record, 7);
            due("run of what would fail with " + kind, run(x, record, failing(kind)), -5);
            due("failed(0, 1)", x.failed(0, 1), 5);
        }
    }

    private static void doneIfOne() {
        BatchClasses x = new BatchClasses(10);
        int of = classOf(x, 1);
        makeRecords(x, 3);
        due("run", x.run(of, 2), 1);
        due("done by it", handleOf(x, 2), 1);
        due("resume goes on behind it", x.resume(of), 0);
        due("value(1, 0)", x.value(1, 0), 0);
        due("value(2, 0)", x.value(2, 0), 1);
        due("value(3, 0)", x.value(3, 0), 1);
    }

    private static void notDoneIfLess() {
        for (int kind = 2; kind <= 5; kind++) {
            BatchClasses x = new BatchClasses(10);
            int of = classOf(x, kind == 5 ? new int[] {1} : failing(kind));
            int first = recordToFail(x);
            int second = recordToFail(x);
            if (kind == 5) {
                run(x, first, 7);
                run(x, second, 7);
            }
            due("run", x.run(of, second), -kind);
            due("resume begins at the first", x.resume(of), first);
            due("failed(1, 0)", x.failed(1, 0), first);
            due("not done", handleOf(x, first), THROWN);
            if (kind != 5) {
                due("by another class", run(x, first, 0), 1);
                due("done by that one alone", handleOf(x, first), 1);
            }
        }
    }

    private static void resumeRunsInOrder() {
        BatchClasses x = new BatchClasses(10);
        // Each record becomes one more than the sum of those before it, so the order shows.
        int of = classOf(x, 9, 1, 8);
        makeRecords(x, 5);
        due("resume", x.resume(of), 0);
        long[] want = {1, 2, 4, 8, 16};
        for (int i = 0; i < want.length; i++) {
            due("value(" + (i + 1) + ", 0)", x.value(i + 1, 0), want[i]);
        }
        due("cell", x.cell(of), 31);
    }

    private static void resumeBehindTheGreatest() {
        BatchClasses x = new BatchClasses(10);
        int of = classOf(x, 1);
        makeRecords(x, 6);
        x.run(of, 4);
        x.run(of, 1);
        x.run(of, 3);
        due("resume", x.resume(of), 0);
        long[] want = {1, 0, 1, 1, 1, 1};
        for (int i = 0; i < want.length; i++) {
            due("value(" + (i + 1) + ", 0)", x.value(i + 1, 0), want[i]);
        }
    }

    private static void resumeIsOfOneClass() {
        BatchClasses x = new BatchClasses(10);
        int type = x.type(program(1), false);
        int one = x.make(type);
        int two = x.make(type);
        makeRecords(x, 3);
        x.run(one, 3);
        due("resume(two)", x.resume(two), 0);
        due("value(1, 0)", x.value(1, 0), 1);
        due("value(3, 0)", x.value(3, 0), 2);
        due("resume(one)", x.resume(one), 0);
        due("value(1, 0)", x.value(1, 0), 1);
        due("value(3, 0)", x.value(3, 0), 2);
    }

    private static void resumeStopsWhereOneFails() {
        BatchClasses divides = new BatchClasses(10);
        divides.record(1, 1);
        divides.record(1, 1);
        divides.record(3, 1);
        divides.record(1, 1);
        dueStopAtThird(divides, classOf(divides, 1, 4), 2);
        BatchClasses lasts = new BatchClasses(10);
        makeRecords(lasts, 2);
        recordToFail(lasts);
        makeRecords(lasts, 1);
        dueStopAtThird(lasts, classOf(lasts, LASTS), 4);
        BatchClasses fails = new BatchClasses(10);
        makeRecords(fails, 2);
        int of = classOf(fails, FAILS);
        due("resume of what always fails", fails.resume(of), 1);
        dueFailure(fails, 0, 1, 3, of);
        dueNoFailure(fails, 1);
    }

    private static void dueStopAtThird(BatchClasses x, int of, int kind) {
        due("resume", x.resume(of), 3);
        dueFailure(x, 0, 3, kind, of);
        dueNoFailure(x, 1);
        due("the first is run", x.value(1, 0), 1);
        due("the second is run", x.value(2, 0), 1);
        due("the third is as it was", x.value(3, 0), 0);
        due("the fourth is not run", x.value(4, 0), 0);
    }

    private static void resumeStopsAtLocked() {
        BatchClasses x = new BatchClasses(10);
        int locks = classOf(x, 7);
        int of = classOf(x, 1, 8);
        makeRecords(x, 4);
        x.run(locks, 3);
        due("resume", x.resume(of), 3);
        dueFailure(x, 0, 3, 5, of);
        dueNoFailure(x, 1);
        due("value(2, 0)", x.value(2, 0), 1);
        due("value(3, 0)", x.value(3, 0), 0);
        due("value(4, 0)", x.value(4, 0), 0);
        due("cell", x.cell(of), 2);
    }

    private static void resumeGoesOn() {
        BatchClasses x = new BatchClasses(10);
        int of = classOf(x, 8, 4);
        x.record(1, 1);
        x.record(0, 7);
        x.record(1, 1);
        due("resume", x.resume(of), 2);
        due("resume again, at the one that failed", x.resume(of), 2);
        dueFailure(x, 1, 2, 2, of);
        due("the second gets its divisor", run(x, 2, 3), 1);
        due("resume, it fails no more", x.resume(of), 0);
        due("value(2, 0)", x.value(2, 0), 1);
        due("cell", x.cell(of), 7);
        dueNoFailure(x, 2);
    }

    private static void resumeAtTheEnd() {
        BatchClasses x = new BatchClasses(10);
        int of = classOf(x, 1);
        makeRecords(x, 2);
        due("resume", x.resume(of), 0);
        due("resume at the end", x.resume(of), 0);
        due("value(2, 0)", x.value(2, 0), 1);
        makeRecords(x, 1);
        due("resume, a record more", x.resume(of), 0);
        due("value(2, 0)", x.value(2, 0), 1);
        due("value(3, 0)", x.value(3, 0), 1);
        dueNoFailure(x, 0);
    }

    private static void resumeWithoutRecords() {
        BatchClasses x = new BatchClasses(10);
        due("resume", x.resume(classOf(x, FAILS)), 0);
        dueNoFailure(x, 0);
    }

    private static void resumeOverSixty() {
        BatchClasses x = new BatchClasses(10);
        int of = classOf(x, 1);
        int fails = classOf(x, 4);
        for (int i = 1; i <= 59; i++) {
            x.record(1, 1);
        }
        x.record(0, 3);
        due("resume over all", x.resume(of), 0);
        due("value(1, 0)", x.value(1, 0), 1);
        due("value(60, 0)", x.value(60, 0), 4);
        due("resume behind the last", x.resume(of), 0);
        due("value(60, 0)", x.value(60, 0), 4);
        due("resume stops at the last", x.resume(fails), 60);
        dueFailure(x, 0, 60, 2, fails);
        int locks = classOf(x, 7);
        due("resume locks all", x.resume(locks), 0);
        due("the first is locked", x.resume(classOf(x, 1)), 1);
        due("run(of, 60)", x.run(of, 60), -5);
    }

    private static void resumeOfNoClass() {
        BatchClasses x = new BatchClasses(10);
        int of = classOf(x, 1);
        makeRecords(x, 1);
        for (int none : noNumbers(1)) {
            due("resume(" + none + ")", x.resume(none), -1);
        }
        due("value(1, 0)", x.value(1, 0), 0);
        due("resume(of)", x.resume(of), 0);
    }

    private static void dryCounts() {
        BatchClasses x = new BatchClasses(10);
        int r = recordOf(x, 5, 6, 7, 8);
        due("none", x.dry(classOf(x, 0), r), 0);
        due("A", x.dry(classOf(x, 1), r), 1);
        due("B", x.dry(classOf(x, 3), r), 1);
        due("C", x.dry(classOf(x, 11), r), 1);
        due("D", x.dry(classOf(x, 12), r), 1);
        due("A and B", x.dry(classOf(x, 5), r), 2);
        due("C and D", x.dry(classOf(x, 12, 11), r), 2);
        due("A, B and D", x.dry(classOf(x, 5, 12), r), 3);
        due("all four", x.dry(classOf(x, 5, 12, 11), r), 4);
        due("there and back", x.dry(classOf(x, 5, 5), r), 0);
        due("the lock is no field", x.dry(classOf(x, 7), r), 0);
        due("the CELL is no field", x.dry(classOf(x, 8), r), 0);
    }

    private static void dryComparesAllBits() {
        BatchClasses x = new BatchClasses(10);
        int swaps = classOf(x, 5);
        due("a high half alone", x.dry(swaps, x.record(0, 1L << 32)), 2);
        due("the sign alone", x.dry(swaps, x.record(1, LEAST)), 2);
        due("twice the least is 0", x.dry(classOf(x, 2), x.record(0, LEAST)), 1);
        due("D of a high half", x.dry(classOf(x, 12, 11), x.record(2, 1L << 32)), 2);
    }

    private static void dryFails() {
        for (int kind = 2; kind <= 4; kind++) {
            BatchClasses x = new BatchClasses(10);
            int record = recordToFail(x);
            due("dry", x.dry(classOf(x, failing(kind)), record), -kind);
        }
        BatchClasses y = new BatchClasses(3);
        int record = y.record(0, 5);
        due("just the steps", y.dry(classOf(y, 1, 1, 13), record), 1);
        due("one step more", y.dry(classOf(y, 1, 1, 1, 13), record), -4);
    }

    private static void dryOfNone() {
        BatchClasses x = new BatchClasses(10);
        int of = classOf(x, 1);
        int record = x.record(0, 5);
        for (int none : noNumbers(1)) {
            due("dry(" + none + ", record)", x.dry(none, record), -1);
            due("dry(of, " + none + ")", x.dry(of, none), -1);
            due("dry(" + none + ", " + none + ")", x.dry(none, none), -1);
        }
    }

    private static void dryOnLocked() {
        BatchClasses x = new BatchClasses(10);
        int locks = classOf(x, 7);
        int record = recordToFail(x);
        x.run(locks, record);
        due("dry", x.dry(locks, record), -5);
        for (int kind = 2; kind <= 4; kind++) {
            due("dry of what would fail", x.dry(classOf(x, failing(kind)), record), -5);
        }
    }

    private static void dryChangesNothing() {
        BatchClasses x = new BatchClasses(10);
        int of = classOf(x, 2, 8, 5, 12, 11, 7);
        int record = recordOf(x, 5, 6, 7, 8);
        due("dry", x.dry(of, record), 4);
        dueFields(x, record, 5, 6, 7, 8);
        due("cell", x.cell(of), 0);
        due("not locked, and the same again", x.dry(of, record), 4);
        due("run", x.run(of, record), 1);
        dueFields(x, record, 6, 10, -1, -1);
    }

    private static void dryIsNoFailure() {
        BatchClasses x = new BatchClasses(10);
        int locks = classOf(x, 7);
        int record = recordToFail(x);
        for (int kind = 2; kind <= 4; kind++) {
            x.dry(classOf(x, failing(kind)), record);
        }
        x.run(locks, record);
        x.dry(locks, record);
        x.dry(locks, 9);
        dueNoFailure(x, 0);
    }

    private static void dryIsNotDone() {
        BatchClasses x = new BatchClasses(10);
        int of = classOf(x, 1);
        int other = classOf(x, 2);
        makeRecords(x, 2);
        x.dry(of, 2);
        due("nothing was run", handleOf(x, 2), THROWN);
        x.run(other, 2);
        due("done by the other alone", handleOf(x, 2), 1);
        due("resume begins at the first", x.resume(of), 0);
        due("value(1, 0)", x.value(1, 0), 1);
    }

    private static void handleCountsClasses() {
        BatchClasses x = new BatchClasses(10);
        int type = x.type(program(1), false);
        makeRecords(x, 60);
        for (int i = 1; i <= 60; i++) {
            x.run(x.make(type), 60);
            due("done by so many", handleOf(x, 60), i);
        }
        x.run(60, 1);
        due("another record, by one", handleOf(x, 1), 1);
    }

    private static void handleCountsEachOnce() {
        BatchClasses x = new BatchClasses(10);
        int one = classOf(x, 1);
        int two = classOf(x, 1);
        makeRecords(x, 1);
        x.run(one, 1);
        x.run(one, 1);
        due("one, twice", handleOf(x, 1), 1);
        x.run(two, 1);
        x.run(one, 1);
        due("two", handleOf(x, 1), 2);
        due("asked again", handleOf(x, 1), 2);
    }

    private static void handleBehindResume() {
        BatchClasses x = new BatchClasses(10);
        int one = classOf(x, 1);
        int two = classOf(x, 1);
        makeRecords(x, 3);
        x.run(two, 3);
        x.run(one, 1);
        due("resume", x.resume(one), 0);
        due("the last that was run", handleOf(x, 3), 2);
        due("not the one before", handleOf(x, 2), THROWN);
        due("not the first", handleOf(x, 1), THROWN);
    }

    private static void handleOfAnother() {
        BatchClasses x = new BatchClasses(10);
        int of = classOf(x, 1);
        makeRecords(x, 3);
        x.run(of, 1);
        x.run(of, 2);
        due("the one before, which was done", handleOf(x, 1), THROWN);
        due("one that was never run", handleOf(x, 3), THROWN);
        due("the latest", handleOf(x, 2), 1);
    }

    private static void handleOfNone() {
        BatchClasses x = new BatchClasses(10);
        int of = classOf(x, 1);
        makeRecords(x, 1);
        for (int none : noNumbers(1)) {
            due("before a run, handle(" + none + ")", handleOf(x, none), THROWN);
        }
        x.run(of, 1);
        for (int none : noNumbers(1)) {
            due("handle(" + none + ")", handleOf(x, none), THROWN);
        }
        due("handle(1)", handleOf(x, 1), 1);
    }

    private static void handleBeforeAnyRun() {
        BatchClasses x = new BatchClasses(10);
        due("no records", handleOf(x, 1), THROWN);
        int of = classOf(x, 1);
        makeRecords(x, 1);
        due("handle(1)", handleOf(x, 1), THROWN);
        due("handle(0)", handleOf(x, 0), THROWN);
        x.dry(of, 1);
        due("a dry run is none", handleOf(x, 1), THROWN);
        x.run(of, 2);
        due("no record was run", handleOf(x, 2), THROWN);
        x.run(2, 1);
        due("no class was run", handleOf(x, 1), THROWN);
    }

    private static void handleOfNotDone() {
        for (int kind = 2; kind <= 5; kind++) {
            BatchClasses x = new BatchClasses(10);
            int record = recordToFail(x);
            int other = recordToFail(x);
            due("done before", run(x, record, kind == 5 ? 7 : 0), 1);
            due("handle", handleOf(x, record), 1);
            due("run", run(x, record, kind == 5 ? new int[] {0} : failing(kind)), -kind);
            due("not done then", handleOf(x, record), THROWN);
            due("another", handleOf(x, other), THROWN);
            due("another is done", run(x, other, 0), 1);
            due("handle of it", handleOf(x, other), 1);
            due("the failing one is not the latest", handleOf(x, record), THROWN);
        }
    }

    private static void handleWhereResumeStopped() {
        BatchClasses x = new BatchClasses(10);
        int of = classOf(x, 4);
        x.record(1, 1);
        x.record(0, 1);
        due("resume", x.resume(of), 2);
        due("the one that failed", handleOf(x, 2), THROWN);
        due("the one that was done before it", handleOf(x, 1), THROWN);
    }

    private static void handleBehindNoRun() {
        BatchClasses x = new BatchClasses(10);
        int of = classOf(x, 1);
        int fails = classOf(x, FAILS);
        makeRecords(x, 2);
        x.run(of, 2);
        x.run(of, 3);
        x.run(3, 1);
        x.resume(9);
        x.dry(fails, 1);
        x.dry(fails, 2);
        due("resume with nothing to run", x.resume(of), 0);
        divided(x, of, 1, 0);
        handleOf(x, 1);
        makeRecords(x, 1);
        classOf(x, 1);
        due("the latest is the same", handleOf(x, 2), 1);
    }
}

/** The sentences of promises 6 to 9 and 11 that name an edge: value, failed, cell, same, divide. */
public final class EdgesOfAnswersTest extends Checks {
    public static void main(String[] args) {
        promise6();
        promise7();
        promise8();
        promise9();
        promise11();
        end();
    }

    private static void promise6() {
        sentence("6: a record's field", EdgesOfAnswersTest::valueOfEachField);
        sentence("6: 0 if there is no such record", EdgesOfAnswersTest::valueOfNoRecord);
        sentence("6: 0 if there is no such field", EdgesOfAnswersTest::valueOfNoField);
    }

    private static void promise7() {
        sentence("7: of the i-th FAILURE, from 0 on", EdgesOfAnswersTest::failuresCountFrom0);
        sentence("7: of the first 100", EdgesOfAnswersTest::firstHundredAreTold);
        sentence("7: of the first 100, in resume, too", EdgesOfAnswersTest::firstHundredOfResume);
        sentence("7: of the first 100, the answers behind go on", EdgesOfAnswersTest::runsBehindTheHundred);
        sentence("7: what 0: the record, 1: the kind, 2: the class", EdgesOfAnswersTest::whatIsTold);
        sentence("7: NONE if there is none such", EdgesOfAnswersTest::noSuchFailure);
        sentence("7: NONE for another what", EdgesOfAnswersTest::noSuchWhat);
    }

    private static void promise8() {
        sentence("8: a class's CELL", EdgesOfAnswersTest::cellOfEachClass);
        sentence("8: 0 if there is no such class", EdgesOfAnswersTest::cellOfNoClass);
    }

    private static void promise9() {
        sentence("9: whether two classes are of one type", EdgesOfAnswersTest::sameType);
        sentence("9: of one type, not of one program", EdgesOfAnswersTest::sameProgramIsNotSameType);
        sentence("9: which may be one class", EdgesOfAnswersTest::sameClass);
        sentence("9: false if one is not there", EdgesOfAnswersTest::sameWithOneNotThere);
        sentence("9: false if both are not there", EdgesOfAnswersTest::sameWithBothNotThere);
    }

    private static void promise11() {
        sentence("11: as act 4 does it", EdgesOfAnswersTest::divideCutsTowards0);
        sentence("11: as act 4 does it, of 64 bits", EdgesOfAnswersTest::divideOf64Bits);
        sentence("11: in a class (which is not changed)", EdgesOfAnswersTest::divideChangesNothing);
        sentence("11: 0 if there is no such class", EdgesOfAnswersTest::divideInNoClass);
        sentence("11: ArithmeticException if by is 0", EdgesOfAnswersTest::divideBy0);
        sentence("11: (and the class is there)", EdgesOfAnswersTest::divideBy0InNoClass);
    }

    private static void valueOfEachField() {
        BatchClasses x = new BatchClasses(10);
        int record = recordOf(x, LEAST, BIG, -1, 1L << 32);
        due("value(record, 0)", x.value(record, 0), LEAST);
        due("value(record, 1)", x.value(record, 1), BIG);
        due("value(record, 2)", x.value(record, 2), -1);
        due("value(record, 3)", x.value(record, 3), 1L << 32);
    }

    private static void valueOfNoRecord() {
        BatchClasses x = new BatchClasses(10);
        for (int i = 0; i < 8; i++) {
            x.record(i % 4, 5);
        }
        for (int none : noNumbers(8)) {
            dueFields(x, none, 0, 0, 0, 0);
        }
        due("value of no record and no field", x.value(0, 4), 0);
    }

    private static void valueOfNoField() {
        BatchClasses x = new BatchClasses(10);
        // All fields hold something, so that a field of the record beside would be seen.
        int record = recordOf(x, 5, 6, 7, 8);
        int behind = recordOf(x, 1, 2, 3, 4);
        int last = x.record(0, 9);
        for (int none : noFields()) {
            due("value(record, " + none + ")", x.value(record, none), 0);
            due("value(behind, " + none + ")", x.value(behind, none), 0);
            due("value(last, " + none + ")", x.value(last, none), 0);
        }
        due("value(last, -1)", x.value(last, -1), 0);
        due("value(last, -5)", x.value(last, -5), 0);
    }

    private static void failuresCountFrom0() {
        BatchClasses x = new BatchClasses(10);
        int fails = classOf(x, 10);
        makeRecords(x, 60);
        dueNoFailure(x, 0);
        for (int record = 1; record <= 60; record++) {
            x.run(fails, record);
            due("the newest", x.failed(record - 1, 0), record);
            due("none behind it", x.failed(record, 0), -1);
        }
        due("the oldest", x.failed(0, 0), 1);
    }

    private static void firstHundredAreTold() {
        BatchClasses x = new BatchClasses(10);
        int divides = classOf(x, 4);
        int fails = classOf(x, 10);
        makeRecords(x, 7);
        for (int i = 0; i < 110; i++) {
            x.run(i % 2 == 0 ? divides : fails, 1 + i % 7);
        }
        for (int i = 0; i < 100; i++) {
            dueFailure(x, i, 1 + i % 7, i % 2 == 0 ? 2 : 3, i % 2 == 0 ? divides : fails);
        }
        dueNoFailure(x, 100);
        dueNoFailure(x, 101);
        dueNoFailure(x, 109);
        dueNoFailure(x, 110);
    }

    private static void firstHundredOfResume() {
        BatchClasses x = new BatchClasses(10);
        int locks = classOf(x, 7);
        int fails = classOf(x, 10);
        makeRecords(x, 2);
        for (int i = 0; i < 99; i++) {
            due("resume", x.resume(fails), 1);
        }
        dueNoFailure(x, 99);
        x.run(locks, 1);
        due("resume, the hundredth", x.resume(fails), 1);
        x.run(fails, 2);
        x.run(locks, 1);
        dueFailure(x, 98, 1, 3, fails);
        dueFailure(x, 99, 1, 5, fails);
        dueNoFailure(x, 100);
    }

    private static void runsBehindTheHundred() {
        BatchClasses x = new BatchClasses(10);
        int divides = classOf(x, 4);
        int fails = classOf(x, 10);
        int fine = classOf(x, 1);
        makeRecords(x, 2);
        for (int i = 0; i < 100; i++) {
            x.run(fails, 1);
        }
        due("a failure", x.run(divides, 2), -2);
        due("it is not done", handleOf(x, 2), THROWN);
        due("a failure of resume", x.resume(divides), 1);
        due("a run that is done", x.run(fine, 2), 1);
        due("it is done", handleOf(x, 2), 1);
        dueFailure(x, 99, 1, 3, fails);
        dueNoFailure(x, 100);
    }

    private static void whatIsTold() {
        BatchClasses x = new BatchClasses(10);
        makeRecords(x, 9);
        int fine = classOf(x, 7);
        int fails = classOf(x, 4);
        x.run(fails, 9);
        x.run(fine, 8);
        x.run(fails, 8);
        due("failed(0, 0)", x.failed(0, 0), 9);
        due("failed(0, 1)", x.failed(0, 1), 2);
        due("failed(0, 2)", x.failed(0, 2), fails);
        due("failed(1, 0)", x.failed(1, 0), 8);
        due("failed(1, 1)", x.failed(1, 1), 5);
        due("failed(1, 2)", x.failed(1, 2), fails);
    }

    private static void noSuchFailure() {
        BatchClasses x = new BatchClasses(10);
        int fails = classOf(x, 10);
        makeRecords(x, 1);
        x.run(fails, 1);
        x.run(fails, 1);
        int[] none = {-1, 2, 3, 99, 100, 101, Integer.MIN_VALUE, Integer.MAX_VALUE};
        for (int i : none) {
            dueNoFailure(x, i);
            due("failed(" + i + ", 3)", x.failed(i, 3), -1);
        }
    }

    private static void noSuchWhat() {
        BatchClasses x = new BatchClasses(10);
        int fails = classOf(x, 10);
        makeRecords(x, 1);
        x.run(fails, 1);
        int[] others = {-1, 3, 4, -2, 256, Integer.MIN_VALUE, Integer.MAX_VALUE};
        for (int what : others) {
            due("failed(0, " + what + ")", x.failed(0, what), -1);
        }
    }

    private static void cellOfEachClass() {
        BatchClasses x = new BatchClasses(10);
        int type = x.type(program(8), false);
        for (int i = 1; i <= 60; i++) {
            x.make(type);
            x.run(i, x.record(0, LEAST + i));
        }
        for (int i = 1; i <= 60; i++) {
            due("cell(" + i + ")", x.cell(i), LEAST + i);
        }
    }

    private static void cellOfNoClass() {
        BatchClasses x = new BatchClasses(10);
        int type = x.type(program(8), false);
        for (int i = 1; i <= 8; i++) {
            x.run(x.make(type), x.record(0, 5));
        }
        for (int none : noNumbers(8)) {
            due("cell(" + none + ")", x.cell(none), 0);
        }
    }

    private static void sameType() {
        BatchClasses x = new BatchClasses(10);
        x.type(1, false);
        x.type(2, false);
        for (int i = 1; i <= 60; i++) {
            x.make(1 + i % 2);
        }
        due("same(1, 3)", x.same(1, 3), true);
        due("same(3, 1)", x.same(3, 1), true);
        due("same(1, 59)", x.same(1, 59), true);
        due("same(60, 2)", x.same(60, 2), true);
        due("same(1, 2)", x.same(1, 2), false);
        due("same(2, 1)", x.same(2, 1), false);
        due("same(60, 1)", x.same(60, 1), false);
    }

    private static void sameProgramIsNotSameType() {
        BatchClasses x = new BatchClasses(10);
        int one = classOf(x, 1, 2);
        int two = classOf(x, 1, 2);
        due("same(one, two)", x.same(one, two), false);
        due("same(two, one)", x.same(two, one), false);
    }

    private static void sameClass() {
        BatchClasses x = new BatchClasses(10);
        int type = x.type(0, false);
        for (int i = 1; i <= 60; i++) {
            x.make(type);
            due("same(" + i + ", " + i + ")", x.same(i, i), true);
        }
    }

    private static void sameWithOneNotThere() {
        BatchClasses x = new BatchClasses(10);
        int type = x.type(0, false);
        x.make(type);
        x.make(type);
        for (int none : noNumbers(2)) {
            due("same(1, " + none + ")", x.same(1, none), false);
            due("same(" + none + ", 2)", x.same(none, 2), false);
        }
    }

    private static void sameWithBothNotThere() {
        BatchClasses x = new BatchClasses(10);
        int type = x.type(0, false);
        x.make(type);
        for (int none : noNumbers(1)) {
            due("same(" + none + ", " + none + ")", x.same(none, none), false);
            due("same(" + none + ", 0)", x.same(none, 0), false);
            due("same(3, " + none + ")", x.same(3, none), false);
        }
    }

    private static void divideCutsTowards0() {
        BatchClasses x = new BatchClasses(10);
        int of = classOf(x, 10);
        due("7 by 2", divided(x, of, 7, 2), 3);
        due("-7 by 2", divided(x, of, -7, 2), -3);
        due("7 by -2", divided(x, of, 7, -2), -3);
        due("-7 by -2", divided(x, of, -7, -2), 3);
        due("0 by 5", divided(x, of, 0, 5), 0);
        due("1 by 2", divided(x, of, 1, 2), 0);
        due("-1 by 2", divided(x, of, -1, 2), 0);
    }

    private static void divideOf64Bits() {
        BatchClasses x = new BatchClasses(10);
        int of = classOf(x, 0);
        due("LEAST by -1 runs over", divided(x, of, LEAST, -1), LEAST);
        due("LEAST by 1", divided(x, of, LEAST, 1), LEAST);
        due("LEAST by LEAST", divided(x, of, LEAST, LEAST), 1);
        due("LEAST by BIG", divided(x, of, LEAST, BIG), -1);
        due("BIG by LEAST", divided(x, of, BIG, LEAST), 0);
        due("BIG by -1", divided(x, of, BIG, -1), -BIG);
        due("by a divisor whose low half is 0", divided(x, of, 1L << 40, 1L << 32), 256);
    }

    private static void divideChangesNothing() {
        BatchClasses x = new BatchClasses(10);
        int of = classOf(x, 8);
        int record = x.record(0, 5);
        x.record(0, 5);
        x.run(of, record);
        divided(x, of, 7, 2);
        divided(x, of, 7, 0);
        due("cell", x.cell(of), 5);
        dueNoFailure(x, 0);
        due("the latest run is the same", handleOf(x, record), 1);
        dueFields(x, record, 5, 0, 0, 0);
        due("resume goes on behind it", x.resume(of), 0);
        due("cell", x.cell(of), 10);
    }

    private static void divideInNoClass() {
        BatchClasses x = new BatchClasses(10);
        classOf(x, 0);
        for (int none : noNumbers(1)) {
            due("divide(" + none + ", 7, 2)", divided(x, none, 7, 2), 0);
        }
    }

    private static void divideBy0() {
        BatchClasses x = new BatchClasses(10);
        int of = classOf(x, 0);
        long[] tops = {7, 0, -7, BIG, LEAST};
        for (long top : tops) {
            due(top + " by 0", divided(x, of, top, 0), THROWN);
        }
        int type = x.type(0, false);
        for (int i = 2; i <= 60; i++) {
            x.make(type);
        }
        due("in the last class", divided(x, 60, 7, 0), THROWN);
        due("the call behind it", divided(x, of, 7, 1), 7);
    }

    private static void divideBy0InNoClass() {
        BatchClasses x = new BatchClasses(10);
        classOf(x, 0);
        for (int none : noNumbers(1)) {
            due("divide(" + none + ", 7, 0)", divided(x, none, 7, 0), 0);
            due("divide(" + none + ", 0, 0)", divided(x, none, 0, 0), 0);
        }
    }
}

/** The sentences under "Terms" that name an edge: of the acts, of STEPS, and of what FAILS. */
public final class EdgesOfTermsTest extends Checks {
    public static void main(String[] args) {
        fieldsAndPrograms();
        acts();
        steps();
        failures();
        end();
    }

    private static void fieldsAndPrograms() {
        sentence("FIELDS 0 .. 3 (longs)", EdgesOfTermsTest::fieldsAreLongs);
        sentence("eight ACTS in the 32 bits of an int", EdgesOfTermsTest::eachOfEightActsIsDone);
        sentence("the first in the lowest four", EdgesOfTermsTest::firstActIsLowest);
        sentence("the eighth in the sign's bits", EdgesOfTermsTest::eighthActIsHighest);
        sentence("a CELL, a long", EdgesOfTermsTest::cellIsLong);
        sentence("a CELL that is its own", EdgesOfTermsTest::cellIsItsOwn);
    }

    private static void acts() {
        sentence("0 nothing", EdgesOfTermsTest::act0);
        sentence("1 A one more", EdgesOfTermsTest::act1);
        sentence("2 A twice itself", EdgesOfTermsTest::act2);
        sentence("3 B becomes A", EdgesOfTermsTest::act3);
        sentence("4 A becomes A divided by B", EdgesOfTermsTest::act4);
        sentence("cut towards 0", EdgesOfTermsTest::act4IsCutTowards0);
        sentence("by 0 it FAILS with kind 2", EdgesOfTermsTest::act4By0);
        sentence("5 A and B change places", EdgesOfTermsTest::act5);
        sentence("6 if A is below C", EdgesOfTermsTest::act6IsBelow);
        sentence("6 if A is below C, over all 64 bits", EdgesOfTermsTest::act6FarApart);
        sentence("6 the program begins anew", EdgesOfTermsTest::act6BeginsAtTheFirst);
        sentence("6 the program begins anew, with what was done", EdgesOfTermsTest::act6KeepsWhatWasDone);
        sentence("6 the program begins anew from its eighth act", EdgesOfTermsTest::act6AsTheEighth);
        sentence("7 the record is LOCKED", EdgesOfTermsTest::act7);
        sentence("7 the record is LOCKED, the program goes on", EdgesOfTermsTest::act7GoesOn);
        sentence("8 the CELL becomes the CELL and A", EdgesOfTermsTest::act8);
        sentence("9 A becomes the CELL", EdgesOfTermsTest::act9);
        sentence("10 it FAILS with kind 3", EdgesOfTermsTest::act10);
        sentence("11 C becomes D", EdgesOfTermsTest::act11);
        sentence("12 D becomes A less C", EdgesOfTermsTest::act12);
        sentence("13 the program ends", EdgesOfTermsTest::act13);
        sentence("14, 15 as 0", EdgesOfTermsTest::acts14And15);
        sentence("All of 64 bits, sums run over: 1", EdgesOfTermsTest::act1RunsOver);
        sentence("All of 64 bits, sums run over: 2", EdgesOfTermsTest::act2RunsOver);
        sentence("All of 64 bits, sums run over: 4", EdgesOfTermsTest::act4RunsOver);
        sentence("All of 64 bits, sums run over: 8", EdgesOfTermsTest::act8RunsOver);
        sentence("All of 64 bits, sums run over: 12", EdgesOfTermsTest::act12RunsOver);
    }

    private static void steps() {
        sentence("Each act that is begun is a STEP", EdgesOfTermsTest::eachActIsOneStep);
        sentence("Each act that is begun is a STEP, in each round", EdgesOfTermsTest::eachRoundHasItsSteps);
        sentence("where one more than the STEPS would be", EdgesOfTermsTest::oneStepMore);
        sentence("kind 4, before that act is begun", EdgesOfTermsTest::kind4ComesBeforeTheAct);
        sentence("kind 4, not for the last of the STEPS", EdgesOfTermsTest::lastStepFailsByItself);
        sentence("kind 4 for a program without an end", EdgesOfTermsTest::endlessPrograms);
        sentence("A program ends behind its eighth act, too", EdgesOfTermsTest::endsBehindTheEighth);
    }

    private static void failures() {
        sentence("What FAILS leaves the record as it was", EdgesOfTermsTest::failureLeavesTheRecord);
        sentence("as it was, behind an earlier run", EdgesOfTermsTest::failureLeavesWhatWasDoneBefore);
        sentence("not locked by it", EdgesOfTermsTest::failureLeavesUnlocked);
        sentence("and the CELL, too", EdgesOfTermsTest::failureLeavesTheCell);
        sentence("that is a FAILURE: which record, which kind", EdgesOfTermsTest::failureIsTold);
    }

    private static void fieldsAreLongs() {
        BatchClasses x = new BatchClasses(10);
        long[] edges = {LEAST, BIG, -1, 1L << 32, Integer.MAX_VALUE + 1L, Integer.MIN_VALUE - 1L};
        for (int field = 0; field <= 3; field++) {
            for (long edge : edges) {
                int record = x.record(field, edge);
                due("value(" + record + ", " + field + ")", x.value(record, field), edge);
            }
        }
    }

    private static void eachOfEightActsIsDone() {
        BatchClasses x = new BatchClasses(8);
        for (int place = 0; place < 8; place++) {
            due("1 in place " + place, run(x, x.record(0, 5), place(1, place)), 1);
            due("value", x.value(place + 1, 0), 6);
        }
        int record = x.record(0, 5);
        for (int place = 0; place < 8; place++) {
            due("10 in place " + place, run(x, record, place(10, place)), -3);
        }
    }

    private static int[] place(int act, int place) {
        int[] acts = new int[8];
        acts[place] = act;
        return acts;
    }

    private static void firstActIsLowest() {
        BatchClasses x = new BatchClasses(8);
        int record = x.record(0, 5);
        due("0x21", x.run(x.make(x.type(0x21, false)), record), 1);
        due("one more, then twice", x.value(record, 0), 12);
        due("0x12", x.run(x.make(x.type(0x12, false)), record), 1);
        due("twice, then one more", x.value(record, 0), 25);
    }

    private static void eighthActIsHighest() {
        BatchClasses x = new BatchClasses(8);
        int record = x.record(0, 5);
        int sums = x.make(x.type(Integer.MIN_VALUE, false));
        due("0x80000000", x.run(sums, record), 1);
        due("cell", x.cell(sums), 5);
        due("all acts 15", x.run(x.make(x.type(-1, false)), record), 1);
        dueFields(x, record, 5, 0, 0, 0);
        due("0xA0000000", x.run(x.make(x.type(0xA0000000, false)), record), -3);
        due("0x7FFFFFFF", x.run(x.make(x.type(Integer.MAX_VALUE, false)), record), 1);
        due("locked by its eighth", x.run(sums, record), -5);
    }

    private static void cellIsLong() {
        BatchClasses x = new BatchClasses(8);
        int of = classOf(x, 8);
        due("run", x.run(of, x.record(0, 1L << 40)), 1);
        due("cell", x.cell(of), 1L << 40);
        due("run", x.run(of, x.record(0, LEAST)), 1);
        due("cell", x.cell(of), LEAST + (1L << 40));
    }

    private static void cellIsItsOwn() {
        BatchClasses x = new BatchClasses(8);
        int type = x.type(program(8), false);
        int one = x.make(type);
        int two = x.make(type);
        int record = x.record(0, 5);
        x.run(one, record);
        due("cell(two)", x.cell(two), 0);
        x.run(two, record);
        x.run(two, record);
        due("cell(one)", x.cell(one), 5);
        due("cell(two)", x.cell(two), 10);
    }

    private static void act0() {
        BatchClasses x = new BatchClasses(8);
        int record = recordOf(x, 5, 6, 7, 8);
        int of = classOf(x, 0, 0, 0, 0, 0, 0, 0, 0);
        due("run", x.run(of, record), 1);
        dueFields(x, record, 5, 6, 7, 8);
        due("cell", x.cell(of), 0);
        due("not locked", x.run(of, record), 1);
    }

    private static void act1() {
        BatchClasses x = new BatchClasses(8);
        int record = recordOf(x, -1, 6, 7, 8);
        run(x, record, 1);
        dueFields(x, record, 0, 6, 7, 8);
        run(x, record, 1);
        dueFields(x, record, 1, 6, 7, 8);
        int wide = x.record(0, Integer.MAX_VALUE);
        run(x, wide, 1);
        dueFields(x, wide, 2147483648L, 0, 0, 0);
    }

    private static void act2() {
        BatchClasses x = new BatchClasses(8);
        int record = recordOf(x, -3, 6, 7, 8);
        run(x, record, 2);
        dueFields(x, record, -6, 6, 7, 8);
        int zero = x.record(1, 4);
        run(x, zero, 2);
        dueFields(x, zero, 0, 4, 0, 0);
        int wide = x.record(0, 1L << 31);
        run(x, wide, 2);
        dueFields(x, wide, 1L << 32, 0, 0, 0);
    }

    private static void act3() {
        BatchClasses x = new BatchClasses(8);
        int record = recordOf(x, LEAST, 6, 7, 8);
        run(x, record, 3);
        dueFields(x, record, LEAST, LEAST, 7, 8);
    }

    private static void act4() {
        BatchClasses x = new BatchClasses(8);
        int record = recordOf(x, 42, 6, 7, 8);
        due("run", run(x, record, 4), 1);
        dueFields(x, record, 7, 6, 7, 8);
        int zero = x.record(1, 6);
        due("0 by 6", run(x, zero, 4), 1);
        dueFields(x, zero, 0, 6, 0, 0);
    }

    private static void act4IsCutTowards0() {
        dueDivided(7, 2, 3);
        dueDivided(-7, 2, -3);
        dueDivided(7, -2, -3);
        dueDivided(-7, -2, 3);
        dueDivided(1, BIG, 0);
        dueDivided(-1, BIG, 0);
        dueDivided(BIG, LEAST, 0);
        dueDivided(LEAST, BIG, -1);
    }

    private static void dueDivided(long a, long by, long want) {
        BatchClasses x = new BatchClasses(8);
        int record = recordOf(x, a, by, 0, 0);
        due(a + " by " + by, run(x, record, 4), 1);
        dueFields(x, record, want, by, 0, 0);
    }

    private static void act4By0() {
        BatchClasses x = new BatchClasses(8);
        long[] tops = {0, 1, -1, BIG, LEAST};
        int of = classOf(x, 4);
        for (long top : tops) {
            due(top + " by 0", x.run(of, x.record(0, top)), -2);
        }
        int record = x.record(1, 5);
        due("by what became 0", run(x, record, 3, 4), -2);
        due("by what is 0 no more", run(x, x.record(0, 5), 3, 4), 1);
        due("by a B whose low half is 0", run(x, x.record(1, 1L << 32), 4), 1);
    }

    private static void act5() {
        BatchClasses x = new BatchClasses(8);
        int record = recordOf(x, LEAST, BIG, 7, 8);
        run(x, record, 5);
        dueFields(x, record, BIG, LEAST, 7, 8);
        run(x, record, 5, 5);
        dueFields(x, record, BIG, LEAST, 7, 8);
    }

    private static void act6IsBelow() {
        BatchClasses x = new BatchClasses(50);
        int oneBelow = recordOf(x, 6, 0, 7, 0);
        due("A is C less 1", run(x, oneBelow, 1, 6), 1);
        dueFields(x, oneBelow, 7, 0, 7, 0);
        due("A is C", run(x, oneBelow, 6, 1), 1);
        dueFields(x, oneBelow, 8, 0, 7, 0);
        due("A is C and 1", run(x, oneBelow, 6, 1), 1);
        dueFields(x, oneBelow, 9, 0, 7, 0);
        int twoRounds = x.record(2, 2);
        due("A is C less 1 behind the first round", run(x, twoRounds, 1, 6), 1);
        dueFields(x, twoRounds, 2, 0, 2, 0);
    }

    private static void act6FarApart() {
        BatchClasses x = new BatchClasses(50);
        int below = recordOf(x, LEAST, 0, BIG, 0);
        due("the least is below the greatest", run(x, below, 6), -4);
        BatchClasses y = new BatchClasses(50);
        int above = recordOf(y, BIG, 0, LEAST, 0);
        due("the greatest is not below the least", run(y, above, 6), 1);
        due("a high half alone", run(x, x.record(2, 1L << 32), 6), -4);
        due("below a C of -1", run(x, x.record(2, -1), 6), 1);
        due("A of -1 below 0", run(x, x.record(0, -1), 6), -4);
    }

    private static void act6BeginsAtTheFirst() {
        BatchClasses x = new BatchClasses(50);
        int of = classOf(x, 8, 1, 6);
        int record = x.record(2, 3);
        due("run", x.run(of, record), 1);
        due("cell of 0 and 1 and 2", x.cell(of), 3);
        dueFields(x, record, 3, 0, 3, 0);
    }

    private static void act6KeepsWhatWasDone() {
        BatchClasses x = new BatchClasses(50);
        int record = x.record(2, 4);
        due("run", run(x, record, 1, 2, 3, 6, 7), 1);
        dueFields(x, record, 6, 6, 4, 0);
        due("locked", run(x, record, 0), -5);
    }

    private static void act6AsTheEighth() {
        BatchClasses x = new BatchClasses(24);
        int record = x.record(2, 3);
        due("three rounds", run(x, record, 1, 0, 0, 0, 0, 0, 0, 6), 1);
        dueFields(x, record, 3, 0, 3, 0);
        due("a fourth is too many", run(x, x.record(2, 4), 1, 0, 0, 0, 0, 0, 0, 6), -4);
    }

    private static void act7() {
        BatchClasses x = new BatchClasses(8);
        int record = recordOf(x, 5, 6, 7, 8);
        int free = x.record(0, 1);
        int locks = classOf(x, 7);
        due("run", x.run(locks, record), 1);
        dueFields(x, record, 5, 6, 7, 8);
        due("locked", x.run(locks, record), -5);
        due("another is not", run(x, free, 1), 1);
    }

    private static void act7GoesOn() {
        BatchClasses x = new BatchClasses(8);
        int record = x.record(0, 1);
        due("run", run(x, record, 7, 1, 7, 1), 1);
        due("value", x.value(record, 0), 3);
        due("locked", run(x, record, 0), -5);
    }

    private static void act8() {
        BatchClasses x = new BatchClasses(8);
        int record = recordOf(x, 5, 6, 7, 8);
        int of = classOf(x, 8, 1, 8);
        x.run(of, record);
        due("5 and 6", x.cell(of), 11);
        dueFields(x, record, 6, 6, 7, 8);
        x.run(of, x.record(0, -20));
        due("less 20 and less 19", x.cell(of), -28);
    }

    private static void act9() {
        BatchClasses x = new BatchClasses(8);
        int record = recordOf(x, 5, 6, 7, 8);
        due("a new CELL", run(x, record, 9), 1);
        dueFields(x, record, 0, 6, 7, 8);
        int of = classOf(x, 8, 9);
        x.run(of, x.record(0, LEAST));
        x.run(of, record);
        dueFields(x, record, LEAST, 6, 7, 8);
        due("cell", x.cell(of), LEAST);
    }

    private static void act10() {
        BatchClasses x = new BatchClasses(8);
        int record = x.record(0, 5);
        due("as the first", run(x, record, 10), -3);
        due("as the eighth", run(x, record, 1, 1, 1, 1, 1, 1, 1, 10), -3);
        due("behind an end", run(x, record, 13, 10), 1);
        due("before a division by 0", run(x, record, 10, 4), -3);
        due("behind a division by 0", run(x, record, 4, 10), -2);
    }

    private static void act11() {
        BatchClasses x = new BatchClasses(8);
        int record = recordOf(x, 5, 6, 7, LEAST);
        run(x, record, 11);
        dueFields(x, record, 5, 6, LEAST, LEAST);
    }

    private static void act12() {
        BatchClasses x = new BatchClasses(8);
        int record = recordOf(x, 5, 6, 7, 8);
        run(x, record, 12);
        dueFields(x, record, 5, 6, 7, -2);
        run(x, record, 12);
        dueFields(x, record, 5, 6, 7, -2);
    }

    private static void act13() {
        BatchClasses x = new BatchClasses(8);
        int record = recordOf(x, 5, 6, 7, 8);
        due("as the first", run(x, record, 13, 1, 10, 4, 7, 8), 1);
        dueFields(x, record, 5, 6, 7, 8);
        due("as the second", run(x, record, 1, 13, 1, 7), 1);
        dueFields(x, record, 6, 6, 7, 8);
        due("as the eighth", run(x, record, 1, 1, 1, 1, 1, 1, 1, 13), 1);
        dueFields(x, record, 13, 6, 7, 8);
    }

    private static void acts14And15() {
        for (int act = 14; act <= 15; act++) {
            BatchClasses x = new BatchClasses(8);
            int record = recordOf(x, 5, 6, 7, 8);
            int of = classOf(x, act, act, act, act, act, act, act, act);
            due("run of " + act, x.run(of, record), 1);
            dueFields(x, record, 5, 6, 7, 8);
            due("cell", x.cell(of), 0);
            due("what comes behind is done", run(x, record, act, 1), 1);
            dueFields(x, record, 6, 6, 7, 8);
        }
    }

    private static void act1RunsOver() {
        BatchClasses x = new BatchClasses(8);
        int record = x.record(0, BIG);
        due("run", run(x, record, 1), 1);
        dueFields(x, record, LEAST, 0, 0, 0);
    }

    private static void act2RunsOver() {
        long[] before = {1L << 62, BIG, LEAST, LEAST + 1};
        long[] behind = {LEAST, -2, 0, 2};
        BatchClasses x = new BatchClasses(8);
        int of = classOf(x, 2);
        for (int i = 0; i < before.length; i++) {
            int record = x.record(0, before[i]);
            due("run", x.run(of, record), 1);
            dueFields(x, record, behind[i], 0, 0, 0);
        }
    }

    private static void act4RunsOver() {
        dueDivided(LEAST, -1, LEAST);
        dueDivided(LEAST + 1, -1, BIG);
        dueDivided(BIG, -1, LEAST + 1);
    }

    private static void act8RunsOver() {
        BatchClasses x = new BatchClasses(8);
        int of = classOf(x, 8);
        x.run(of, x.record(0, BIG));
        x.run(of, x.record(0, 1));
        due("one above the greatest", x.cell(of), LEAST);
        x.run(of, x.record(0, -1));
        due("one below the least", x.cell(of), BIG);
    }

    private static void act12RunsOver() {
        long[] a = {LEAST, BIG, 0, -2, LEAST};
        long[] c = {1, -1, LEAST, BIG, LEAST};
        long[] d = {BIG, LEAST, LEAST, BIG, 0};
        for (int i = 0; i < a.length; i++) {
            BatchClasses x = new BatchClasses(8);
            int record = recordOf(x, a[i], 0, c[i], 5);
            due("run", run(x, record, 12), 1);
            dueFields(x, record, a[i], 0, c[i], d[i]);
        }
    }

    private static void eachActIsOneStep() {
        for (int act = 0; act <= 15; act++) {
            if (act == 10 || act == 13) {
                continue;
            }
            due("two of " + act + " and an end in 3", runWithSteps(3, act, act, 13), 1);
            due("two of " + act + " and an end in 2", runWithSteps(2, act, act, 13), -4);
        }
        due("an end in 1", runWithSteps(1, 13), 1);
        due("an end is a step, too", runWithSteps(1, 0, 13), -4);
        due("a failure is a step, too", runWithSteps(1, 0, 10), -4);
        due("a failure in 2", runWithSteps(2, 0, 10), -3);
    }

    /** On a record whose B is not 0, so that act 4 does not fail. */
    private static int runWithSteps(int steps, int... acts) {
        BatchClasses x = new BatchClasses(steps);
        return run(x, x.record(1, 3), acts);
    }

    private static void eachRoundHasItsSteps() {
        BatchClasses x = new BatchClasses(21);
        due("ten rounds of two, and an end", run(x, x.record(2, 10), 1, 6, 13), 1);
        due("eleven rounds of two", run(x, x.record(2, 11), 1, 6, 13), -4);
        BatchClasses y = new BatchClasses(20);
        due("ten rounds of two, no step for the end", run(y, y.record(2, 10), 1, 6, 13), -4);
    }

    private static void oneStepMore() {
        for (int steps = 1; steps <= 8; steps++) {
            BatchClasses x = new BatchClasses(steps);
            int record = x.record(0, 0);
            due("an end in step " + steps, run(x, record, place(13, steps - 1)), 1);
            int want = steps == 8 ? 1 : -4;
            due("an end in the step behind", run(x, record, place(13, Math.min(7, steps))), want);
            due("a program without an end", run(x, record, 0), want);
        }
    }

    private static void kind4ComesBeforeTheAct() {
        BatchClasses x = new BatchClasses(3);
        int record = x.record(0, 5);
        due("a failure", run(x, record, 0, 0, 0, 10), -4);
        due("a division by 0", run(x, record, 0, 0, 0, 4), -4);
        due("a lock", run(x, record, 0, 0, 0, 7, 13), -4);
        due("not locked", run(x, record, 0, 13), 1);
        due("failed(0, 1)", x.failed(0, 1), 4);
    }

    private static void lastStepFailsByItself() {
        BatchClasses x = new BatchClasses(3);
        int record = x.record(0, 5);
        due("a failure", run(x, record, 0, 0, 10), -3);
        due("a division by 0", run(x, record, 0, 0, 4), -2);
    }

    private static void endlessPrograms() {
        int[] steps = {1, 2, 7, 8, 9, 199, 200, Integer.MAX_VALUE};
        for (int most : steps) {
            BatchClasses x = new BatchClasses(most);
            int of = classOf(x, 6);
            int record = x.record(2, 1);
            due("run with " + most, x.run(of, record), -4);
            dueFailure(x, 0, record, 4, of);
        }
    }

    private static void endsBehindTheEighth() {
        int[] steps = {8, 9, 16, 200};
        for (int most : steps) {
            BatchClasses x = new BatchClasses(most);
            int of = classOf(x, 1, 1, 1, 1, 1, 1, 1, 1);
            int record = x.record(0, 0);
            due("run with " + most, x.run(of, record), 1);
            dueFields(x, record, 8, 0, 0, 0);
        }
    }

    /** A program that changes all and locks, then fails with this kind in its last act or behind it. */
    private static int[] failing(int kind) {
        return new int[] {1, 8, 3, 12, 11, 7, 0, kind == 2 ? 4 : kind == 3 ? 10 : 6};
    }

    /** A of -1 makes B, and so the divisor, 0; a C below 0 leaves A below the C that it becomes. */
    private static int recordToFail(BatchClasses x, int kind) {
        return recordOf(x, kind == 2 ? -1 : 15, 6, -100, 8);
    }

    private static void failureLeavesTheRecord() {
        for (int kind = 2; kind <= 4; kind++) {
            BatchClasses x = new BatchClasses(8);
            int record = recordToFail(x, kind);
            due("run", run(x, record, failing(kind)), -kind);
            dueFields(x, record, kind == 2 ? -1 : 15, 6, -100, 8);
        }
    }

    private static void failureLeavesWhatWasDoneBefore() {
        for (int kind = 2; kind <= 4; kind++) {
            BatchClasses x = new BatchClasses(50);
            int record = recordOf(x, 5, 0, BIG, 8);
            due("done", run(x, record, 1, 12), 1);
            due("run", run(x, record, 1, 2, 12, kind == 2 ? 4 : kind == 3 ? 10 : 6), -kind);
            dueFields(x, record, 6, 0, BIG, 6 - BIG);
        }
    }

    private static void failureLeavesUnlocked() {
        for (int kind = 2; kind <= 4; kind++) {
            BatchClasses x = new BatchClasses(8);
            int record = recordToFail(x, kind);
            due("run", run(x, record, failing(kind)), -kind);
            due("not locked", run(x, record, 0), 1);
        }
    }

    private static void failureLeavesTheCell() {
        BatchClasses x = new BatchClasses(50);
        int divides = classOf(x, 8, 4);
        int lasts = classOf(x, 8, 6);
        x.run(divides, x.record(1, 3));
        int fine = recordOf(x, 5, 1, 0, 0);
        x.run(divides, fine);
        x.run(lasts, fine);
        due("cell(divides)", x.cell(divides), 5);
        due("cell(lasts)", x.cell(lasts), 5);
        due("kind 2", x.run(divides, x.record(0, 9)), -2);
        due("kind 4", x.run(lasts, x.record(2, 9)), -4);
        int below = x.record(0, -9);
        due("kind 4, with an A", x.run(lasts, below), -4);
        due("cell(divides)", x.cell(divides), 5);
        due("cell(lasts)", x.cell(lasts), 5);
        int fails = classOf(x, 8, 10);
        due("kind 3", x.run(fails, fine), -3);
        due("cell(fails)", x.cell(fails), 0);
    }

    private static void failureIsTold() {
        BatchClasses x = new BatchClasses(50);
        makeRecords(x, 3);
        x.record(2, 1);
        int divides = classOf(x, 4);
        int fails = classOf(x, 10);
        int lasts = classOf(x, 6);
        x.run(lasts, 4);
        x.run(fails, 3);
        x.run(divides, 2);
        dueFailure(x, 0, 4, 4, lasts);
        dueFailure(x, 1, 3, 3, fails);
        dueFailure(x, 2, 2, 2, divides);
        dueNoFailure(x, 3);
    }
}

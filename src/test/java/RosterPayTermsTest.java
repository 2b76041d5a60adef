/** The boundaries that the document names ahead of its promises: a method for each sentence, which stands above it. */
public final class RosterPayTermsTest {
    private static final int EVERY_DAY = 127;
    private static final int EVERY_RANK = 15;
    private static final int HOLIDAYS = 0;

    private static final int INDEX = Checks.INDEX;
    private static final int ARGUMENT = Checks.ARGUMENT;
    private static final int STATE = Checks.STATE;

    public static void main(String[] args) {
        testCalls();
        testDays();
        testWeekdays();
        testWeeks();
        testQuartersOfDay();
        testRoundedDown();
        testNoSuchNumber();
        testFirstListedException();
        testRefusedCallsChangeNothing();
        testBases();
        testMostRules();
        testQuartersOfRule();
        testWeekdaysOfRule();
        testHolidaysOfRule();
        testRanksOfRule();
        testPercentages();
        testSwitchedOff();
        testMostWorkers();
        testMostShifts();
        testOwnQuarters();
        testNextDay();
        testOverlaps();
        testCancelled();
        testLeastEngagement();
        testLeastEngagementBehind();
        testGreatestPercentage();
        testOvertime();
        testReasons();
        testBreaksOwed();
        testBreaksPaid();
        testPay();
        testWorked();
        testGroups();
        testExcess();
        Checks.finish();
    }

    // ---- objects

    private static RosterPay withWorker() {
        RosterPay x = new RosterPay();
        x.addWorker(0);
        return x;
    }

    private static RosterPay withShift(int day, int quarter, int quarters) {
        RosterPay x = withWorker();
        x.addShift(0, day, quarter, quarters);
        return x;
    }

    private static int percentOfNewShift(RosterPay x, int day, int quarter) {
        return x.percentAt(x.addShift(0, day, quarter, 1), 0);
    }

    /** The reasons of some quarters of the shift 0, one behind the other. */
    private static String reasons(RosterPay x, int... quarters) {
        StringBuilder all = new StringBuilder();
        for (int quarter : quarters) {
            all.append(x.reasonAt(0, quarter)).append(' ');
        }
        return all.toString().trim();
    }

    private static String percents(RosterPay x, int... quarters) {
        StringBuilder all = new StringBuilder();
        for (int quarter : quarters) {
            all.append(x.percentAt(0, quarter)).append(' ');
        }
        return all.toString().trim();
    }

    // ---- the object, days and numbers

    /** "An object is used for at most 512 calls after it has been made". */
    private static void testCalls() {
        RosterPay x = new RosterPay();
        Told.FULL.tell(x);
        int told = 16 + 12 + 80 + 5;
        for (int call = told + 1; call < 511; call++) {
            x.pay(call % 80);
        }
        Checks.due("call 511", STATE, () -> x.addShift(0, 300, 0, 1));
        Checks.due("call 512", 80, () -> x.shifts());
    }

    /** "Days are 0 to 363": the last day is reached by a shift that goes on. */
    private static void testDays() {
        RosterPay x = withWorker();
        x.addRule(HOLIDAYS, 0, 96, EVERY_RANK, 200);
        x.setHoliday(0, true);
        x.setHoliday(363, true);
        x.addShift(0, 0, 0, 12);
        x.addShift(0, 362, 95, 64);
        Checks.due("day 0", 200, () -> x.percentAt(0, 0));
        Checks.due("day 362", 100, () -> x.percentAt(1, 0));
        Checks.due("day 363, its first quarter", 200, () -> x.percentAt(1, 1));
        Checks.due("day 363, the last quarter that there is", 200, () -> x.percentAt(1, 31));
    }

    /** "the weekday of a day is the day modulo 7". */
    private static void testWeekdays() {
        int[] days = {0, 6, 7, 13, 14, 356, 357, 362};
        int[] weekdays = {0, 6, 0, 6, 0, 6, 0, 5};
        for (int i = 0; i < days.length; i++) {
            RosterPay x = withShift(days[i], 0, 12);
            x.addRule(1 << weekdays[i], 0, 96, EVERY_RANK, 130);
            RosterPay y = withShift(days[i], 0, 12);
            y.addRule(EVERY_DAY - (1 << weekdays[i]), 0, 96, EVERY_RANK, 130);
            Checks.due("weekday of the day " + days[i], 130, () -> x.percentAt(0, 0));
            Checks.due("other weekdays than of the day " + days[i], 100, () -> y.percentAt(0, 0));
        }
        RosterPay z = withShift(362, 95, 2);
        z.addRule(1 << 6, 0, 96, EVERY_RANK, 130);
        Checks.due("weekdays of the days 362 and 363", "100 130", percents(z, 0, 1));
    }

    /** "its week day / 7". */
    private static void testWeeks() {
        int[] days = {0, 6, 7, 13, 14, 356, 357, 362};
        int[] weeks = {0, 0, 1, 1, 2, 50, 51, 51};
        for (int i = 0; i < days.length; i++) {
            RosterPay x = withShift(days[i], 0, 5);
            for (int week = 0; week < 52; week++) {
                int w = week;
                int want = week == weeks[i] ? 5 : 0;
                Checks.due("week " + week + ", for the day " + days[i], want, () -> x.worked(0, w));
            }
        }
    }

    /** "A day has the quarters of hours 0 to 95". */
    private static void testQuartersOfDay() {
        RosterPay x = withShift(3, 94, 12);
        x.addRule(EVERY_DAY, 95, 96, EVERY_RANK, 110);
        x.addRule(EVERY_DAY, 0, 1, EVERY_RANK, 120);
        x.addRule(1 << 4, 0, 2, EVERY_RANK, 105);
        Checks.due("quarters around midnight", "100 110 120 105 100", percents(x, 0, 1, 2, 3, 4));
    }

    /** "Amounts are whole cents. Divisions are rounded down." */
    private static void testRoundedDown() {
        int[] percents = {133, 134, 166, 167, 199, 200};
        int[] want = {3, 4, 4, 5, 5, 6};
        for (int i = 0; i < percents.length; i++) {
            RosterPay x = withShift(0, 0, 12);
            x.setBase(0, 3);
            x.addRule(EVERY_DAY, 0, 96, EVERY_RANK, percents[i]);
            int cents = 12 * want[i];
            Checks.due("3 cents by " + percents[i] + ", pay", cents, () -> x.pay(0));
            Checks.due("3 cents by " + percents[i] + ", payOf", cents, () -> x.payOf(0, 0, 0));
            Checks.due("3 cents by " + percents[i] + ", paidBy", cents, () -> x.paidBy(0));
        }
        RosterPay y = withShift(0, 0, 12);
        y.setBase(0, 1);
        y.addRule(EVERY_DAY, 0, 6, EVERY_RANK, 199);
        Checks.due("1 cent by 199: quarters are not added before they are rounded", 12, () -> y.pay(0));
        RosterPay z = withShift(0, 0, 40);
        z.setBase(0, 1);
        Checks.due("1 cent by overtime", 32 + 8 + 4, () -> z.pay(0));
    }

    // ---- exceptions

    /** "IndexOutOfBoundsException if there is no such rule, worker, shift or quarter". */
    private static void testNoSuchNumber() {
        int[] none = {-1, Integer.MIN_VALUE, Integer.MAX_VALUE, 0};
        for (Told told : Told.values()) {
            for (int number : none) {
                int rule = number == 0 ? new int[] {0, 4, 16}[told.ordinal()] : number;
                int worker = number == 0 ? new int[] {0, 2, 12}[told.ordinal()] : number;
                int shift = number == 0 ? new int[] {0, 5, 80}[told.ordinal()] : number;
                noSuchRule(told, rule);
                noSuchWorker(told, worker);
                noSuchShift(told, shift);
            }
        }
        for (int quarter : new int[] {-1, 40, Integer.MIN_VALUE, Integer.MAX_VALUE}) {
            Checks.refused("percentAt quarter " + quarter, Told.SOME, INDEX, x -> x.percentAt(0, quarter));
            Checks.refused("reasonAt quarter " + quarter, Told.SOME, INDEX, x -> x.reasonAt(0, quarter));
        }
    }

    private static void noSuchRule(Told told, int rule) {
        Checks.refused("setRule off " + rule, told, INDEX, x -> Checks.number(x.setRule(rule, false)));
        Checks.refused("setRule on " + rule, told, INDEX, x -> Checks.number(x.setRule(rule, true)));
        Checks.refused("paidBy " + rule, told, INDEX, x -> x.paidBy(rule));
    }

    private static void noSuchWorker(Told told, int worker) {
        Checks.refused("setRank of worker " + worker, told, INDEX, x -> x.setRank(worker, 2));
        Checks.refused("addShift of worker " + worker, told, INDEX, x -> x.addShift(worker, 100, 0, 1));
        Checks.refused("payOf worker " + worker, told, INDEX, x -> x.payOf(worker, 0, 363));
        Checks.refused("worked of worker " + worker, told, INDEX, x -> x.worked(worker, 0));
        Checks.refused("excess of worker " + worker, told, INDEX, x -> x.excess(worker, 0));
    }

    private static void noSuchShift(Told told, int shift) {
        Checks.refused("cancel " + shift, told, INDEX, x -> x.cancel(shift));
        Checks.refused("takeBreaks in " + shift, told, INDEX, x -> x.takeBreaks(shift, 1));
        Checks.refused("paidQuarters of " + shift, told, INDEX, x -> x.paidQuarters(shift));
        Checks.refused("percentAt in " + shift, told, INDEX, x -> x.percentAt(shift, 0));
        Checks.refused("reasonAt in " + shift, told, INDEX, x -> x.reasonAt(shift, 0));
        Checks.refused("missed in " + shift, told, INDEX, x -> x.missed(shift));
        Checks.refused("pay of " + shift, told, INDEX, x -> x.pay(shift));
    }

    /** "if several apply, the one that it lists first is thrown". */
    private static void testFirstListedException() {
        Checks.refused("addRule: argument, 16", Told.FULL, ARGUMENT, x -> x.addRule(128, 0, 1, 1, 100));
        Checks.refused("addWorker: argument, 12", Told.FULL, ARGUMENT, x -> x.addWorker(4));
        Checks.refused("setRank: worker, argument", Told.SOME, INDEX, x -> x.setRank(2, 4));
        Checks.refused("addShift: worker, day", Told.SOME, INDEX, x -> x.addShift(2, 363, 0, 1));
        Checks.refused("addShift: worker, quarter", Told.SOME, INDEX, x -> x.addShift(2, 0, 96, 1));
        Checks.refused("addShift: worker, quarters", Told.SOME, INDEX, x -> x.addShift(2, 0, 0, 65));
        Checks.refused("addShift: worker, 80", Told.FULL, INDEX, x -> x.addShift(12, 200, 0, 1));
        Checks.refused("addShift: worker, day, 80", Told.FULL, INDEX, x -> x.addShift(-1, 363, 0, 1));
        Checks.refused("addShift: day, 80", Told.FULL, ARGUMENT, x -> x.addShift(0, 363, 0, 1));
        Checks.refused("addShift: quarter, 80", Told.FULL, ARGUMENT, x -> x.addShift(0, 200, -1, 1));
        Checks.refused("addShift: quarters, overlap", Told.SOME, ARGUMENT, x -> x.addShift(0, 0, 80, 65));
        Checks.refused("addShift: quarter that would overlap", Told.SOME, ARGUMENT, x -> x.addShift(0, 0, 96, 1));
        Checks.refused("takeBreaks: shift, argument", Told.SOME, INDEX, x -> x.takeBreaks(5, 6));
        Checks.refused("takeBreaks: argument, cancelled", Told.SOME, ARGUMENT, x -> x.takeBreaks(4, 6));
        Checks.refused("payOf: worker, from", Told.SOME, INDEX, x -> x.payOf(2, -1, 0));
        Checks.refused("payOf: worker, to", Told.SOME, INDEX, x -> x.payOf(2, 5, 4));
        Checks.refused("worked: worker, week", Told.SOME, INDEX, x -> x.worked(2, 52));
        Checks.refused("excess: worker, group", Told.SOME, INDEX, x -> x.excess(2, 13));
    }

    /** "A call that throws changes nothing": what was told before is there, and goes on to be told. */
    private static void testRefusedCallsChangeNothing() {
        RosterPay x = new RosterPay();
        Checks.due("refused worker", ARGUMENT, () -> x.addWorker(4));
        Checks.due("first worker", 0, () -> x.addWorker(1));
        Checks.due("refused rule", ARGUMENT, () -> x.addRule(1, 0, 97, 1, 150));
        Checks.due("first rule", 0, () -> x.addRule(1, 0, 96, 15, 150));
        Checks.due("refused shift", ARGUMENT, () -> x.addShift(0, 0, 0, 65));
        Checks.due("first shift, where the refused one would be", 0, () -> x.addShift(0, 0, 0, 20));
        Checks.due("shift that overlaps", STATE, () -> x.addShift(0, 0, 19, 20));
        Checks.due("second shift, where the refused one would be", 1, () -> x.addShift(0, 0, 20, 20));
        Checks.due("refused breaks", ARGUMENT, () -> x.takeBreaks(0, 6));
        Checks.due("breaks before", 0, () -> x.takeBreaks(0, 1));
        Checks.due("refused base", ARGUMENT, () -> x.setBase(1, 0));
        Checks.due("base before", 500, () -> x.setBase(1, 400));
        Checks.due("refused rank", ARGUMENT, () -> x.setRank(0, 4));
        Checks.due("rank before", 1, () -> x.setRank(0, 1));
        Checks.due("pay of the first shift", 20 * 600, () -> x.pay(0));
        Checks.due("cancelled", 20 * 600 + 800, () -> x.cancel(1));
        Checks.due("cancelled twice", STATE, () -> x.cancel(1));
        Checks.due("breaks of a cancelled one", STATE, () -> x.takeBreaks(1, 1));
        Checks.due("shifts", 2, () -> x.shifts());
        Checks.due("pay of all", 20 * 600, () -> x.payOf(0, 0, 363));
    }

    // ---- rules

    /** "Each rank, 0 to 3, has a base, the cents for a quarter, 500 at first." */
    private static void testBases() {
        for (int rank = 0; rank < 4; rank++) {
            RosterPay x = withShift(0, 0, 12);
            int r = rank;
            x.setRank(0, rank);
            Checks.due("pay by the first base of the rank " + rank, 6000, () -> x.pay(0));
            Checks.due("first base of the rank " + rank, 500, () -> x.setBase(r, 10 + r));
            Checks.due("pay by the base of the rank " + rank, 12 * (10 + rank), () -> x.pay(0));
            x.setRank(0, (rank + 1) % 4);
            Checks.due("pay by the base of another rank than " + rank, 6000, () -> x.pay(0));
        }
    }

    /** "Rules are numbered from 0; there are at most 16." */
    private static void testMostRules() {
        RosterPay x = withShift(0, 0, 12);
        for (int rule = 0; rule < 16; rule++) {
            int r = rule;
            Checks.due("rule " + rule, rule, () -> x.addRule(EVERY_DAY, 0, 96, EVERY_RANK, 100 + r));
            Checks.due("rule " + rule + " applies", 100 + rule, () -> x.percentAt(0, 0));
            Checks.due("rule " + rule + " is the reason", rule, () -> x.reasonAt(0, 0));
        }
        Checks.due("rule 16", STATE, () -> x.addRule(EVERY_DAY, 0, 96, EVERY_RANK, 400));
        Checks.due("without rule 16", 115, () -> x.percentAt(0, 0));
        for (int rule = 15; rule >= 0; rule--) {
            int r = rule;
            Checks.due("rule " + rule + " still is the reason", rule, () -> x.reasonAt(0, 0));
            Checks.due("rule " + rule + " off", 1, () -> Checks.number(x.setRule(r, false)));
        }
        Checks.due("16 that are off", STATE, () -> x.addRule(EVERY_DAY, 0, 96, EVERY_RANK, 400));
        Checks.due("no rule on", 100, () -> x.percentAt(0, 0));
    }

    /** "for quarters of the day from one to another one, that one not included". */
    private static void testQuartersOfRule() {
        int[] froms = {0, 0, 1, 40, 94, 95};
        int[] tos = {1, 96, 2, 42, 95, 96};
        for (int i = 0; i < froms.length; i++) {
            RosterPay x = withWorker();
            x.addRule(EVERY_DAY, froms[i], tos[i], EVERY_RANK, 150);
            String name = "rule from " + froms[i] + " to " + tos[i];
            if (froms[i] > 0) {
                int before = froms[i] - 1;
                Checks.due(name + ", before", 100, () -> percentOfNewShift(x, 7, before));
            }
            int from = froms[i];
            int to = tos[i];
            Checks.due(name + ", first", 150, () -> percentOfNewShift(x, 14, from));
            Checks.due(name + ", last", 150, () -> percentOfNewShift(x, 21, to - 1));
            if (to < 96) {
                Checks.due(name + ", behind", 100, () -> percentOfNewShift(x, 28, to));
            }
        }
    }

    /** "A rule is for some weekdays, or for holidays": each bit, and none. */
    private static void testWeekdaysOfRule() {
        for (int weekdays : new int[] {1, 64, 65, 62, 127}) {
            RosterPay x = withWorker();
            x.addRule(weekdays, 0, 96, EVERY_RANK, 150);
            for (int day = 0; day < 14; day++) {
                int d = day;
                int want = (weekdays & 1 << day % 7) != 0 ? 150 : 100;
                Checks.due("weekdays " + weekdays + " on the day " + day, want, () -> percentOfNewShift(x, d, 0));
            }
        }
        RosterPay x = withWorker();
        x.addRule(HOLIDAYS, 0, 96, EVERY_RANK, 150);
        for (int day = 0; day < 14; day++) {
            int d = day;
            Checks.due("no holidays, on the day " + day, 100, () -> percentOfNewShift(x, d, 0));
        }
    }

    /**
     * "the day is a holiday, if it is for holidays, or otherwise its weekday is among the weekdays of the rule (whether it
     * is a holiday or not)".
     */
    private static void testHolidaysOfRule() {
        RosterPay x = withShift(7, 90, 12);
        x.addRule(HOLIDAYS, 0, 96, EVERY_RANK, 300);
        x.addRule(1, 0, 96, EVERY_RANK, 200);
        Checks.due("no holiday", "200 200 100 100", percents(x, 0, 5, 6, 11));
        x.setHoliday(8, true);
        Checks.due("the second day is one", "200 200 300 300", percents(x, 0, 5, 6, 11));
        x.setHoliday(7, true);
        Checks.due("both days are", "300 300 300 300", percents(x, 0, 5, 6, 11));
        x.setRule(0, false);
        Checks.due("a rule of weekdays, on holidays", "200 200 100 100", percents(x, 0, 5, 6, 11));
        x.setRule(0, true);
        x.setHoliday(8, false);
        Checks.due("the first day is one", "300 300 100 100", percents(x, 0, 5, 6, 11));
        x.setHoliday(7, false);
        Checks.due("no holiday any more", "200 200 100 100", percents(x, 0, 5, 6, 11));
    }

    /** "the rank is among its ranks": the lowest, the highest, all but one, all. */
    private static void testRanksOfRule() {
        for (int ranks : new int[] {1, 8, 7, 14, 9, 6, 15}) {
            for (int rank = 0; rank < 4; rank++) {
                RosterPay x = withShift(0, 0, 12);
                x.addRule(EVERY_DAY, 0, 96, ranks, 150);
                x.setRank(0, rank);
                int want = (ranks & 1 << rank) != 0 ? 150 : 100;
                Checks.due("ranks " + ranks + ", rank " + rank, want, () -> x.percentAt(0, 0));
            }
        }
    }

    /** "has a percentage, 100 to 400". */
    private static void testPercentages() {
        RosterPay x = withShift(0, 0, 12);
        Checks.due("percentage 99", ARGUMENT, () -> x.addRule(EVERY_DAY, 0, 96, EVERY_RANK, 99));
        Checks.due("percentage 100", 0, () -> x.addRule(EVERY_DAY, 0, 96, EVERY_RANK, 100));
        Checks.due("paid by 100", 6000, () -> x.paidBy(0));
        Checks.due("percentage 401", ARGUMENT, () -> x.addRule(EVERY_DAY, 0, 96, EVERY_RANK, 401));
        Checks.due("percentage 400", 1, () -> x.addRule(EVERY_DAY, 0, 96, EVERY_RANK, 400));
        Checks.due("paid by 400", 24000, () -> x.paidBy(1));
        Checks.due("not paid by 100 any more", 0, () -> x.paidBy(0));
    }

    /** "A rule can be switched off and on; it is on at first." */
    private static void testSwitchedOff() {
        RosterPay x = withShift(0, 0, 64);
        x.addRule(EVERY_DAY, 0, 96, EVERY_RANK, 250);
        Checks.due("on at first", "0 0 0", reasons(x, 0, 32, 63));
        x.setRule(0, false);
        Checks.due("off", "-1 -2 -2", reasons(x, 0, 32, 63));
        Checks.due("off, paid by it", 0, () -> x.paidBy(0));
        x.setRule(0, true);
        Checks.due("on", "0 0 0", reasons(x, 0, 32, 63));
        Checks.due("on, paid by it", 64 * 1250, () -> x.paidBy(0));
    }

    // ---- shifts

    /** "Workers are numbered from 0; there are at most 12". */
    private static void testMostWorkers() {
        RosterPay x = new RosterPay();
        for (int worker = 0; worker < 12; worker++) {
            int w = worker;
            Checks.due("worker " + worker, worker, () -> x.addWorker(w % 4));
            Checks.due("shift of the worker " + worker, worker, () -> x.addShift(w, 0, 0, 12 + w));
        }
        Checks.due("worker 12", STATE, () -> x.addWorker(0));
        for (int worker = 0; worker < 12; worker++) {
            int w = worker;
            Checks.due("rank of the worker " + worker, worker % 4, () -> x.setRank(w, 0));
            Checks.due("hours of the worker " + worker, 12 + worker, () -> x.worked(w, 0));
        }
        Checks.due("hours of the worker 12", INDEX, () -> x.worked(12, 0));
    }

    /** "Shifts are numbered from 0; there are at most 80." */
    private static void testMostShifts() {
        RosterPay x = withWorker();
        for (int shift = 0; shift < 80; shift++) {
            int s = shift;
            Checks.due("shift " + shift, shift, () -> x.addShift(0, s, 0, 12 + s % 4));
            Checks.due("shifts " + shift, shift + 1, () -> x.shifts());
        }
        Checks.due("shift 80", STATE, () -> x.addShift(0, 200, 0, 12));
        Checks.due("shift 80 of none", INDEX, () -> x.pay(80));
        for (int shift = 0; shift < 80; shift++) {
            int s = shift;
            Checks.due("pay of the shift " + shift, 500 * (12 + shift % 4), () -> x.pay(s));
        }
        x.cancel(79);
        Checks.due("shift 80 after one was cancelled", STATE, () -> x.addShift(0, 79, 0, 12));
        Checks.due("shifts at the end", 80, () -> x.shifts());
    }

    /** "has some quarters, 1 to 64". */
    private static void testOwnQuarters() {
        RosterPay x = withWorker();
        Checks.due("0 quarters", ARGUMENT, () -> x.addShift(0, 0, 0, 0));
        Checks.due("1 quarter", 0, () -> x.addShift(0, 0, 0, 1));
        Checks.due("65 quarters", ARGUMENT, () -> x.addShift(0, 7, 0, 65));
        Checks.due("64 quarters", 1, () -> x.addShift(0, 7, 0, 64));
        Checks.due("1 quarter was worked", 1, () -> x.worked(0, 0));
        Checks.due("64 quarters were worked", 64, () -> x.worked(0, 1));
    }

    /** "which may go on into the next day". */
    private static void testNextDay() {
        RosterPay x = withShift(0, 32, 64);
        x.addRule(1 << 1, 0, 96, EVERY_RANK, 400);
        Checks.due("up to midnight, no more", 0, () -> x.paidBy(0));
        RosterPay y = withShift(0, 33, 64);
        y.addRule(1 << 1, 0, 96, EVERY_RANK, 400);
        Checks.due("one quarter of the next day", 2000, () -> y.paidBy(0));
        Checks.due("the last quarter is on the next day", "200 400", percents(y, 62, 63));
        RosterPay z = withShift(0, 95, 64);
        z.addRule(1 << 1, 0, 96, EVERY_RANK, 400);
        Checks.due("all but one quarter on the next day", 63 * 2000, () -> z.paidBy(0));
        Checks.due("the first quarter is on its day", "100 400", percents(z, 0, 1));
    }

    /** "shifts of a worker do not overlap with these own quarters". */
    private static void testOverlaps() {
        RosterPay x = withShift(5, 90, 10);
        x.addWorker(0);
        Checks.due("ends on its first quarter", STATE, () -> x.addShift(0, 5, 50, 41));
        Checks.due("begins on its last quarter", STATE, () -> x.addShift(0, 6, 3, 64));
        Checks.due("within", STATE, () -> x.addShift(0, 5, 95, 2));
        Checks.due("around", STATE, () -> x.addShift(0, 5, 60, 64));
        Checks.due("the same", STATE, () -> x.addShift(0, 5, 90, 10));
        Checks.due("none was added", 1, () -> x.shifts());
        Checks.due("the same of another worker", 1, () -> x.addShift(1, 5, 90, 10));
        Checks.due("the same a day before", 2, () -> x.addShift(0, 4, 90, 10));
        Checks.due("ends before its first quarter", 3, () -> x.addShift(0, 5, 50, 40));
        Checks.due("begins behind its last quarter", 4, () -> x.addShift(0, 6, 4, 64));
        RosterPay y = withShift(5, 10, 1);
        Checks.due("on a quarter that is paid, but no own one", 1, () -> y.addShift(0, 5, 11, 1));
        Checks.due("before it, with quarters that are paid on it", 2, () -> y.addShift(0, 5, 9, 1));
        Checks.due("each is paid for itself", 18000, () -> y.payOf(0, 5, 5));
        y.cancel(0);
        Checks.due("on a cancelled one", 3, () -> y.addShift(0, 5, 10, 1));
        Checks.due("on it once more", STATE, () -> y.addShift(0, 5, 10, 1));
    }

    /** "A shift can be cancelled; then it counts for nothing any more." */
    private static void testCancelled() {
        RosterPay x = withWorker();
        x.addRule(EVERY_DAY, 0, 96, EVERY_RANK, 150);
        for (int day = 0; day < 10; day++) {
            x.addShift(0, day, 0, 64);
        }
        Checks.due("excess before", 32, () -> x.excess(0, 0));
        Checks.due("worked before", 7 * 64, () -> x.worked(0, 0));
        Checks.due("paid before by the rule", 10 * 30000, () -> x.paidBy(0));
        Checks.due("pay before", 10 * (30000 + 24000 + 2000), () -> x.payOf(0, 0, 363));
        Checks.due("cancel", 30000 + 24000 + 2000, () -> x.cancel(3));
        Checks.due("excess", 0, () -> x.excess(0, 0));
        Checks.due("worked", 6 * 64, () -> x.worked(0, 0));
        Checks.due("paid by the rule", 9 * 30000, () -> x.paidBy(0));
        Checks.due("pay of all", 9 * (30000 + 24000 + 2000), () -> x.payOf(0, 0, 363));
        Checks.due("pay on its day", 0, () -> x.payOf(0, 3, 3));
        Checks.due("its pay", 0, () -> x.pay(3));
        Checks.due("its breaks", 0, () -> x.missed(3));
        Checks.due("its quarters", 0, () -> x.paidQuarters(3));
        Checks.due("its first percentage", INDEX, () -> x.percentAt(3, 0));
        Checks.due("its first reason", INDEX, () -> x.reasonAt(3, 0));
        Checks.due("cancelled once more", STATE, () -> x.cancel(3));
        Checks.due("its place is free", 10, () -> x.addShift(0, 3, 0, 64));
        Checks.due("the one before", 56000, () -> x.pay(2));
        Checks.due("the one behind", 56000, () -> x.pay(4));
    }

    // ---- how a shift is paid

    /**
     * "its own ones, and, if these are fewer than 12, those that would come behind them, up to 12. They are numbered from
     * 0."
     */
    private static void testLeastEngagement() {
        int[] own = {1, 2, 11, 12, 13, 63, 64};
        int[] paid = {12, 12, 12, 12, 13, 63, 64};
        for (int i = 0; i < own.length; i++) {
            RosterPay x = withShift(0, 0, own[i]);
            int behind = paid[i];
            Checks.due("paid of " + own[i], paid[i], () -> x.paidQuarters(0));
            Checks.due("the first of " + own[i], 100, () -> x.percentAt(0, 0));
            Checks.due("the last of " + own[i], paid[i] > 40 ? 200 : 100, () -> x.percentAt(0, behind - 1));
            Checks.due("behind the last of " + own[i], INDEX, () -> x.percentAt(0, behind));
            Checks.due("before the first of " + own[i], INDEX, () -> x.percentAt(0, -1));
            Checks.due("the last reason of " + own[i], paid[i] > 40 ? -2 : -1, () -> x.reasonAt(0, behind - 1));
            Checks.due("the reason behind the last of " + own[i], INDEX, () -> x.reasonAt(0, behind));
            Checks.due("the reason before the first of " + own[i], INDEX, () -> x.reasonAt(0, -1));
        }
        for (int quarters = 1; quarters <= 13; quarters++) {
            RosterPay x = withShift(0, 0, quarters);
            Checks.due("pay of " + quarters, quarters <= 12 ? 6000 : 6500, () -> x.pay(0));
        }
    }

    /** "those that would come behind them": on the next day too, the last one among them. */
    private static void testLeastEngagementBehind() {
        RosterPay x = withShift(0, 94, 1);
        x.addRule(1 << 1, 0, 96, EVERY_RANK, 200);
        Checks.due("behind midnight", "100 100 200 200", percents(x, 0, 1, 2, 11));
        RosterPay y = withShift(362, 95, 1);
        y.addRule(HOLIDAYS, 0, 11, EVERY_RANK, 300);
        y.setHoliday(363, true);
        Checks.due("on the last day", "100 300 300", percents(y, 0, 1, 11));
        Checks.due("paid on the last day", 11 * 1500, () -> y.paidBy(0));
        Checks.due("only the own one is worked", 1, () -> y.worked(0, 51));
        RosterPay z = withShift(362, 84, 1);
        z.addRule(1 << 6, 0, 96, EVERY_RANK, 300);
        Checks.due("up to midnight, no more", 0, () -> z.paidBy(0));
    }

    /** "A paid quarter is paid by the greatest of these percentages: 100; those of all rules that apply to it". */
    private static void testGreatestPercentage() {
        RosterPay x = withShift(0, 0, 12);
        x.addRule(EVERY_DAY, 0, 4, EVERY_RANK, 110);
        x.addRule(EVERY_DAY, 2, 6, EVERY_RANK, 130);
        x.addRule(EVERY_DAY, 3, 8, EVERY_RANK, 120);
        x.addRule(EVERY_DAY, 7, 9, EVERY_RANK, 100);
        Checks.due("they do not stack", "110 110 130 130 130 130 120 120 100 100",
                percents(x, 0, 1, 2, 3, 4, 5, 6, 7, 8, 9));
        Checks.due("the reasons", "0 0 1 1 1 1 2 2 3 -1", reasons(x, 0, 1, 2, 3, 4, 5, 6, 7, 8, 9));
    }

    /** "150 from the quarter 32 of the shift on, 200 from the quarter 40 on". */
    private static void testOvertime() {
        RosterPay x = withShift(0, 60, 64);
        Checks.due("overtime", "100 100 150 150 200 200", percents(x, 0, 31, 32, 39, 40, 63));
        Checks.due("its reasons", "-1 -1 -2 -2 -2 -2", reasons(x, 0, 31, 32, 39, 40, 63));
        int[] percents = {149, 150, 151, 199, 200, 201};
        String[] paidBy = {"149 150 200", "150 150 200", "151 151 200", "199 199 200", "200 200 200", "201 201 201"};
        String[] reasons = {"0 -2 -2", "0 0 -2", "0 0 -2", "0 0 -2", "0 0 0", "0 0 0"};
        for (int i = 0; i < percents.length; i++) {
            RosterPay y = withShift(0, 60, 64);
            y.addRule(EVERY_DAY, 0, 96, EVERY_RANK, percents[i]);
            Checks.due("a rule of " + percents[i], paidBy[i], percents(y, 31, 32, 40));
            Checks.due("a rule of " + percents[i] + ", at the ends", paidBy[i], percents(y, 0, 39, 63));
            Checks.due("a rule of " + percents[i] + ", reasons", reasons[i], reasons(y, 31, 32, 40));
            Checks.due("a rule of " + percents[i] + ", reasons at the ends", reasons[i], reasons(y, 0, 39, 63));
        }
        RosterPay z = withShift(0, 0, 32);
        z.addShift(0, 0, 32, 32);
        Checks.due("32 quarters have none", 16000 + 1000, () -> z.pay(0));
        Checks.due("each shift begins anew", 16000 + 1000, () -> z.pay(1));
        RosterPay w = withShift(0, 0, 33);
        Checks.due("33 quarters have one", 16000 + 750 + 1000, () -> w.pay(0));
    }

    /**
     * "the rule with the lowest number of those with this percentage; if there is none, OVERTIME, if it is 150 or 200 by
     * overtime; otherwise PLAIN".
     */
    private static void testReasons() {
        RosterPay x = withShift(0, 0, 64);
        Checks.due("without rules", "-1 -1 -2 -2", reasons(x, 0, 31, 32, 63));
        x.addRule(EVERY_DAY, 0, 96, EVERY_RANK, 100);
        x.addRule(EVERY_DAY, 0, 96, EVERY_RANK, 100);
        Checks.due("rules of 100", "0 0 -2 -2", reasons(x, 0, 31, 32, 63));
        x.setRule(0, false);
        Checks.due("the second one of 100", "1 1 -2 -2", reasons(x, 0, 31, 32, 63));
        x.setRule(1, false);
        Checks.due("none of 100", "-1 -1 -2 -2", reasons(x, 0, 31, 32, 63));
        x.addRule(EVERY_DAY, 0, 96, EVERY_RANK, 120);
        x.addRule(EVERY_DAY, 0, 96, EVERY_RANK, 200);
        x.addRule(EVERY_DAY, 0, 96, EVERY_RANK, 200);
        x.addRule(EVERY_DAY, 0, 96, EVERY_RANK, 120);
        Checks.due("the lowest of two of 200", "3 3 3 3", reasons(x, 0, 31, 32, 63));
        x.setRule(3, false);
        Checks.due("the other one of 200", "4 4 4 4", reasons(x, 0, 31, 32, 63));
        x.setRule(4, false);
        Checks.due("the lowest of two of 120", "2 2 -2 -2", reasons(x, 0, 31, 32, 63));
        x.setRule(3, true);
        x.setRule(4, true);
        Checks.due("on again", "3 3 3 3", reasons(x, 0, 31, 32, 63));
        Checks.due("paid by the lowest", 64 * 1000, () -> x.paidBy(3));
        Checks.due("paid by the other one", 0, () -> x.paidBy(4));
    }

    /** "A shift owes one break if it has 20 quarters or more, and two if it has 40 or more." */
    private static void testBreaksOwed() {
        int[] own = {1, 12, 19, 20, 39, 40, 64};
        int[] owed = {0, 0, 0, 1, 1, 2, 2};
        for (int i = 0; i < own.length; i++) {
            RosterPay x = withShift(0, 0, own[i]);
            Checks.due("breaks owed by " + own[i], owed[i], () -> x.missed(0));
        }
    }

    /** "For each break that is owed and was not taken, 2 quarters are paid besides at the base." */
    private static void testBreaksPaid() {
        int[] own = {19, 20, 39, 40};
        for (int quarters : own) {
            for (int taken = 0; taken <= 5; taken++) {
                RosterPay x = withShift(0, 0, quarters);
                x.addRule(EVERY_DAY, 0, 96, EVERY_RANK, 400);
                x.takeBreaks(0, taken);
                int owed = quarters / 20;
                int missed = taken > owed ? 0 : owed - taken;
                String name = taken + " breaks in " + quarters;
                Checks.due(name, missed, () -> x.missed(0));
                Checks.due(name + ", pay", quarters * 2000 + missed * 1000, () -> x.pay(0));
                Checks.due(name + ", by the rule", quarters * 2000, () -> x.paidBy(0));
            }
        }
    }

    /**
     * "The pay of a shift is what all its paid quarters are paid, and what is paid for breaks that were missed": the least
     * and the most that there can be.
     */
    private static void testPay() {
        RosterPay x = withShift(0, 0, 1);
        x.setBase(0, 1);
        Checks.due("the least pay", 12, () -> x.pay(0));
        RosterPay y = new RosterPay();
        y.setBase(3, 10000);
        y.addRule(EVERY_DAY, 0, 96, EVERY_RANK, 400);
        y.addWorker(3);
        for (int day = 0; day < 80; day++) {
            y.addShift(0, day, 0, 64);
        }
        Checks.due("the most pay", 64 * 40000 + 40000, () -> y.pay(79));
        Checks.due("the most pay of a worker", 80 * (64 * 40000 + 40000), () -> y.payOf(0, 0, 363));
        Checks.due("the most that is paid by a rule", 80 * 64 * 40000, () -> y.paidBy(0));
    }

    // ---- hours

    /** "What a worker has worked in a week are the own quarters of shifts that lie on days of the week." */
    private static void testWorked() {
        RosterPay x = withShift(6, 86, 10);
        Checks.due("up to the end of the week", 10, () -> x.worked(0, 0));
        Checks.due("nothing behind it", 0, () -> x.worked(0, 1));
        RosterPay y = withShift(6, 87, 10);
        Checks.due("all but one quarter", 9, () -> y.worked(0, 0));
        Checks.due("one quarter behind it", 1, () -> y.worked(0, 1));
        RosterPay z = withShift(6, 95, 64);
        Checks.due("one quarter", 1, () -> z.worked(0, 0));
        Checks.due("all but one behind it", 63, () -> z.worked(0, 1));
        RosterPay w = withShift(7, 0, 10);
        Checks.due("nothing before it", 0, () -> w.worked(0, 0));
        Checks.due("from the begin of the week on", 10, () -> w.worked(0, 1));
        RosterPay v = withShift(6, 95, 1);
        Checks.due("quarters that are paid are not worked", 1, () -> v.worked(0, 0));
        Checks.due("nor in the next week", 0, () -> v.worked(0, 1));
        RosterPay u = withShift(362, 95, 64);
        Checks.due("the last week, on two days", 64, () -> u.worked(0, 51));
        RosterPay t = withWorker();
        for (int day = 0; day < 9; day++) {
            t.addShift(0, day, 32, 64);
            t.addShift(0, day, 0, 32);
        }
        Checks.due("a week without a free quarter", 672, () -> t.worked(0, 0));
        Checks.due("two days of the next one", 192, () -> t.worked(0, 1));
    }

    /** "Weeks are grouped by four, from the week 0 on". */
    private static void testGroups() {
        int[] outerDays = {0, 27, 28, 55, 56, 335, 336, 362};
        for (int day : outerDays) {
            RosterPay x = withWorker();
            for (int i = 0; i < 10; i++) {
                x.addShift(0, day % 28 < 14 ? day + i : day - i, 0, 64);
            }
            for (int group = 0; group < 13; group++) {
                int g = group;
                int want = group == day / 28 ? 32 : 0;
                Checks.due("group " + group + ", with the day " + day, want, () -> x.excess(0, g));
            }
        }
        RosterPay y = withWorker();
        for (int day = 18; day < 27; day++) {
            y.addShift(0, day, 0, 64);
        }
        for (int day = 28; day < 37; day++) {
            y.addShift(0, day, 32, 64);
        }
        y.addShift(0, 27, 46, 64);
        y.addShift(0, 40, 0, 20);
        Checks.due("the quarters of a shift before the end of the group", 576 + 50 - 608, () -> y.excess(0, 0));
        Checks.due("the quarters of the shift behind it", 576 + 14 + 20 - 608, () -> y.excess(0, 1));
    }

    /** "the excess ... is what was worked in its weeks together above 608 quarters". */
    private static void testExcess() {
        for (int last = 30; last <= 34; last++) {
            RosterPay x = withWorker();
            for (int day = 0; day < 9; day++) {
                x.addShift(0, day * 3, 0, 64);
            }
            Checks.due("excess of 576", 0, () -> x.excess(0, 0));
            x.addShift(0, 27, 0, last);
            int together = 576 + last;
            Checks.due("excess of " + together, Math.max(together - 608, 0), () -> x.excess(0, 0));
            x.cancel(0);
            Checks.due("excess of " + (together - 64), 0, () -> x.excess(0, 0));
        }
        RosterPay y = withWorker();
        Checks.due("excess of nothing", 0, () -> y.excess(0, 0));
        for (int day = 0; day < 28; day++) {
            y.addShift(0, day, 0, 64);
            y.addShift(0, day, 64, 32);
        }
        Checks.due("excess of four weeks without a free quarter", 4 * 672 - 608, () -> y.excess(0, 0));
    }
}

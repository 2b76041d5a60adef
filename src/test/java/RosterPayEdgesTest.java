/** The boundaries of the promises 1 to 20: ranges at both ends and beside them, what is full, and what is refused. */
public final class RosterPayEdgesTest {
    private static final int EVERY_DAY = 127;
    private static final int EVERY_RANK = 15;

    private static final int INDEX = Checks.INDEX;
    private static final int ARGUMENT = Checks.ARGUMENT;
    private static final int STATE = Checks.STATE;

    private static final Told NOTHING = Told.NOTHING;
    private static final Told SOME = Told.SOME;
    private static final Told FULL = Told.FULL;

    public static void main(String[] args) {
        testWhatWasTold();
        testNewObject();
        testSetBase();
        testAddRule();
        testMostRules();
        testSetRule();
        testSetHoliday();
        testAddWorker();
        testSetRank();
        testAddShift();
        testAddShiftRefused();
        testCancel();
        testTakeBreaks();
        testShifts();
        testPaidQuarters();
        testPercentAt();
        testReasonAt();
        testMissed();
        testPay();
        testPayOf();
        testPaidBy();
        testWorked();
        testExcess();
        Checks.finish();
    }

    /** Refused calls are tested with these objects, so that their answers must be due by themselves. */
    private static void testWhatWasTold() {
        Checks.due("some: shifts", "shifts 5, shift 0: 40 1 51800, shift 1: 20 1 9484, shift 2: 64 2 97650, "
                + "shift 3: 12 0 3996, shift 4: 0 0 0", Told.answers(SOME.make(), 0));
        RosterPay x = SOME.make();
        int[] paidBy = {19824, 84000, 12444, 0};
        for (int rule = 0; rule < 4; rule++) {
            int r = rule;
            Checks.due("some: paid by the rule " + rule, paidBy[rule], () -> x.paidBy(r));
        }
        Checks.due("some: pay of the worker 0", 149450, () -> x.payOf(0, 0, 363));
        Checks.due("some: pay of the worker 1", 13480, () -> x.payOf(1, 0, 363));
        Checks.due("some: worked", 11, () -> x.worked(1, 0));
        Checks.due("some: worked behind midnight", 14, () -> x.worked(1, 1));
        Checks.due("some: breaks told", 1, () -> x.takeBreaks(0, 1));
        RosterPay y = FULL.make();
        Checks.due("full: shifts", 80, () -> y.shifts());
        Checks.due("full: excess", 212, () -> y.excess(0, 0));
        Checks.due("full: rank", 3, () -> y.setRank(11, 3));
    }

    // ---- promise 1

    private static void testNewObject() {
        Checks.due("new: shifts", 0, () -> new RosterPay().shifts());
        Checks.due("new: rule", INDEX, () -> Checks.number(new RosterPay().setRule(0, true)));
        Checks.due("new: worker", INDEX, () -> new RosterPay().setRank(0, 0));
        Checks.due("new: shift", INDEX, () -> new RosterPay().pay(0));
        Checks.due("new: shift of no worker", INDEX, () -> new RosterPay().addShift(0, 0, 0, 1));
        Checks.due("new: first rule", 0, () -> new RosterPay().addRule(1, 0, 1, 1, 100));
        Checks.due("new: first worker", 0, () -> new RosterPay().addWorker(0));
        RosterPay x = new RosterPay();
        for (int day = 0; day < 364; day++) {
            int d = day;
            Checks.due("new: holiday " + day, 0, () -> Checks.number(x.setHoliday(d, true)));
        }
        FULL.make();
        Checks.due("new: beside an object that is full", Told.answers(new RosterPay(), 3), NOTHING.answersOfTwin(3));
        Checks.due("new: first shift beside it", 0, () -> withWorker().addShift(0, 0, 0, 1));
    }

    private static RosterPay withWorker() {
        RosterPay x = new RosterPay();
        x.addWorker(0);
        return x;
    }

    private static RosterPay withShift(int quarters) {
        RosterPay x = withWorker();
        x.addShift(0, 0, 0, quarters);
        return x;
    }

    private static RosterPay withCancelledShift() {
        RosterPay x = withShift(40);
        x.cancel(0);
        return x;
    }

    // ---- promise 2

    private static void testSetBase() {
        Checks.range("setBase: rank", NOTHING, ARGUMENT, 0, 3, 500, (x, rank) -> x.setBase(rank, 7));
        Checks.range("setBase: cents", NOTHING, ARGUMENT, 1, 10000, 500, (x, cents) -> x.setBase(0, cents));
        Checks.range("setBase: cents", SOME, ARGUMENT, 1, 10000, 333, (x, cents) -> x.setBase(3, cents));
        Checks.range("setBase: cents, told again", SOME, ARGUMENT, 1, 10000, 0, (x, cents) -> {
            x.setBase(3, cents);
            return x.setBase(3, 5) - cents;
        });
        Checks.range("setBase: cents, paid", SOME, ARGUMENT, 1, 10000, 0, (x, cents) -> {
            x.setBase(3, cents);
            return x.pay(3) - 12 * cents;
        });
        Checks.refused("setBase: both", SOME, ARGUMENT, x -> x.setBase(4, 0));
    }

    // ---- promise 3

    private static void testAddRule() {
        Checks.range("addRule: weekdays", SOME, ARGUMENT, 0, 127, 4, (x, days) -> x.addRule(days, 5, 9, 15, 400));
        Checks.range("addRule: from", SOME, ARGUMENT, 0, 95, 4, (x, from) -> x.addRule(127, from, 96, 15, 400));
        for (int from : new int[] {0, 1, 40, 94, 95}) {
            Checks.range("addRule: from " + from + " to", SOME, ARGUMENT, from + 1, 96, 4,
                    (x, to) -> x.addRule(127, from, to, 15, 400));
        }
        Checks.range("addRule: ranks", SOME, ARGUMENT, 1, 15, 4, (x, ranks) -> x.addRule(127, 0, 96, ranks, 400));
        Checks.range("addRule: percent", SOME, ARGUMENT, 100, 400, 4,
                (x, percent) -> x.addRule(127, 0, 96, 15, percent));
        Checks.range("addRule: weekdays of the first", NOTHING, ARGUMENT, 0, 127, 0,
                (x, days) -> x.addRule(days, 5, 9, 15, 400));
        Checks.refused("addRule: from 96 to 97", SOME, ARGUMENT, x -> x.addRule(127, 96, 97, 15, 400));
        Checks.refused("addRule: from -1 to 0", SOME, ARGUMENT, x -> x.addRule(127, -1, 0, 15, 400));
        Checks.refused("addRule: to least, from most", SOME, ARGUMENT,
                x -> x.addRule(127, Integer.MAX_VALUE, Integer.MIN_VALUE, 15, 400));
        RosterPay x = withShift(12);
        Checks.due("addRule: a rule of the most", 0, () -> x.addRule(EVERY_DAY, 0, 96, EVERY_RANK, 400));
        Checks.due("addRule: it applies from 0 on", 400, () -> x.percentAt(0, 0));
        x.addShift(0, 6, 84, 12);
        Checks.due("addRule: and up to 95, on the weekday 6", 400, () -> x.percentAt(1, 11));
        x.setRank(0, 3);
        Checks.due("addRule: and for the rank 3", 400, () -> x.percentAt(1, 11));
    }

    private static void testMostRules() {
        RosterPay x = new RosterPay();
        for (int rule = 0; rule < 16; rule++) {
            int r = rule;
            Checks.due("addRule: " + rule, rule, () -> x.addRule(1, 0, 1, 1, 100 + r));
        }
        Checks.due("addRule: 16", STATE, () -> x.addRule(1, 0, 1, 1, 100));
        Checks.refused("addRule: 16", FULL, STATE, y -> y.addRule(0, 0, 96, 15, 400));
        Checks.refused("addRule: 16 and an argument", FULL, ARGUMENT, y -> y.addRule(0, 0, 96, 15, 401));
        Checks.refused("addRule: 16 that are off", FULL, STATE, y -> {
            y.setRule(3, false);
            int answer = Checks.answer(() -> y.addRule(0, 0, 96, 15, 400));
            y.setRule(3, true);
            return answer;
        });
    }

    // ---- promise 4

    private static void testSetRule() {
        Checks.range("setRule: off", FULL, INDEX, 0, 15, 1, (x, rule) -> Checks.number(x.setRule(rule, false)));
        Checks.range("setRule: on", FULL, INDEX, 0, 15, 1, (x, rule) -> Checks.number(x.setRule(rule, true)));
        Checks.range("setRule: off, on", SOME, INDEX, 0, 3, 0, (x, rule) -> {
            x.setRule(rule, false);
            return Checks.number(x.setRule(rule, true));
        });
        Checks.refused("setRule: 0 of none", NOTHING, INDEX, x -> Checks.number(x.setRule(0, false)));
        Checks.due("setRule: the last one was off", 0, () -> Checks.number(SOME.make().setRule(3, false)));
        Checks.due("setRule: the one before was on", 1, () -> Checks.number(SOME.make().setRule(2, false)));
    }

    // ---- promise 5

    private static void testSetHoliday() {
        Checks.range("setHoliday: day", NOTHING, ARGUMENT, 0, 363, 0,
                (x, day) -> Checks.number(x.setHoliday(day, true)));
        Checks.range("setHoliday: no", NOTHING, ARGUMENT, 0, 363, 0,
                (x, day) -> Checks.number(x.setHoliday(day, false)));
        Checks.refused("setHoliday: -1 beside others", SOME, ARGUMENT, x -> Checks.number(x.setHoliday(-1, false)));
        Checks.refused("setHoliday: 364 beside others", SOME, ARGUMENT, x -> Checks.number(x.setHoliday(364, false)));
        RosterPay x = new RosterPay();
        x.setHoliday(0, true);
        x.setHoliday(363, true);
        Checks.due("setHoliday: beside the first one", 0, () -> Checks.number(x.setHoliday(1, true)));
        Checks.due("setHoliday: beside the last one", 0, () -> Checks.number(x.setHoliday(362, true)));
        Checks.due("setHoliday: the first one", 1, () -> Checks.number(x.setHoliday(0, false)));
        Checks.due("setHoliday: the last one", 1, () -> Checks.number(x.setHoliday(363, false)));
        Checks.due("setHoliday: the first one no more", 0, () -> Checks.number(x.setHoliday(0, false)));
        Checks.due("setHoliday: the last one no more", 0, () -> Checks.number(x.setHoliday(363, false)));
    }

    // ---- promise 6

    private static void testAddWorker() {
        Checks.range("addWorker: rank", NOTHING, ARGUMENT, 0, 3, 0, (x, rank) -> x.addWorker(rank));
        Checks.range("addWorker: rank", SOME, ARGUMENT, 0, 3, 2, (x, rank) -> x.addWorker(rank));
        Checks.range("addWorker: rank, told again", SOME, ARGUMENT, 0, 3, 0,
                (x, rank) -> x.setRank(x.addWorker(rank), 0) - rank);
        RosterPay x = new RosterPay();
        for (int worker = 0; worker < 12; worker++) {
            Checks.due("addWorker: " + worker, worker, () -> x.addWorker(3));
        }
        Checks.due("addWorker: 12", STATE, () -> x.addWorker(3));
        Checks.refused("addWorker: 12", FULL, STATE, y -> y.addWorker(0));
        Checks.refused("addWorker: 12 and an argument", FULL, ARGUMENT, y -> y.addWorker(-1));
    }

    // ---- promise 7

    private static void testSetRank() {
        Checks.range("setRank: worker", FULL, INDEX, 0, 11, 0, (x, worker) -> x.setRank(worker, 0) - worker % 4);
        Checks.range("setRank: worker", SOME, INDEX, 0, 1, 0, (x, worker) -> x.setRank(worker, 0) - 2 * worker - 1);
        Checks.range("setRank: rank", SOME, ARGUMENT, 0, 3, 3, (x, rank) -> x.setRank(1, rank));
        Checks.range("setRank: rank, told again", SOME, ARGUMENT, 0, 3, 0, (x, rank) -> {
            x.setRank(1, rank);
            return x.setRank(1, 2) - rank;
        });
        Checks.refused("setRank: 0 of none", NOTHING, INDEX, x -> x.setRank(0, 0));
        RosterPay x = withShift(12);
        x.setBase(3, 900);
        x.setRank(0, 3);
        x.addShift(0, 1, 0, 12);
        Checks.due("setRank: for shifts before", 10800, () -> x.pay(0));
        Checks.due("setRank: for shifts behind", 10800, () -> x.pay(1));
        x.setRank(0, 0);
        Checks.due("setRank: for all shifts", 12000, () -> x.payOf(0, 0, 363));
    }

    // ---- promise 8

    private static void testAddShift() {
        Checks.range("addShift: worker", SOME, INDEX, 0, 1, 5, (x, worker) -> x.addShift(worker, 100, 0, 1));
        Checks.range("addShift: day", SOME, ARGUMENT, 0, 362, 5, (x, day) -> x.addShift(1, day, 0, 1));
        Checks.range("addShift: quarter", SOME, ARGUMENT, 0, 95, 5, (x, quarter) -> x.addShift(0, 100, quarter, 1));
        Checks.range("addShift: quarters", SOME, ARGUMENT, 1, 64, 5, (x, quarters) -> x.addShift(0, 100, 95, quarters));
        Checks.range("addShift: quarters, paid", SOME, ARGUMENT, 1, 64, 0,
                (x, quarters) -> x.paidQuarters(x.addShift(0, 100, 95, quarters)) - Math.max(12, quarters));
        Checks.range("addShift: quarters on the last day", SOME, ARGUMENT, 1, 64, 5,
                (x, quarters) -> x.addShift(1, 362, 95, quarters));
        Checks.refused("addShift: no worker", NOTHING, INDEX, x -> x.addShift(0, 0, 0, 1));
        Checks.refused("addShift: day and quarter", SOME, ARGUMENT, x -> x.addShift(0, -1, 96, 1));
        Checks.refused("addShift: the last day", SOME, ARGUMENT, x -> x.addShift(0, 363, 0, 1));
    }

    private static void testAddShiftRefused() {
        int[] days = {0, 0, 0, 1, 0, 0};
        int[] quarters = {80, 60, 70, 23, 95, 79};
        int[] lengths = {40, 21, 64, 64, 2, 42};
        for (int i = 0; i < days.length; i++) {
            int n = i;
            Checks.refused("addShift: overlap " + i, SOME, STATE, x -> x.addShift(0, days[n], quarters[n], lengths[n]));
            Checks.due("addShift: another worker " + i, 5,
                    () -> SOME.make().addShift(1, days[n], quarters[n], lengths[n]));
        }
        Checks.due("addShift: ends before", 5, () -> SOME.make().addShift(0, 0, 60, 20));
        Checks.due("addShift: begins behind", 5, () -> SOME.make().addShift(0, 1, 24, 64));
        Checks.refused("addShift: overlap on the last days", SOME, STATE, x -> x.addShift(0, 362, 32, 64));
        Checks.due("addShift: ends before the last one", 5, () -> SOME.make().addShift(0, 362, 31, 64));
        Checks.due("addShift: on a cancelled one", 5, () -> SOME.make().addShift(0, 10, 0, 30));
        Checks.due("addShift: around a cancelled one", 5, () -> SOME.make().addShift(0, 9, 90, 64));
        Checks.refused("addShift: 80", FULL, STATE, x -> x.addShift(11, 200, 0, 1));
        Checks.refused("addShift: 80, and an overlap", FULL, STATE, x -> x.addShift(0, 0, 0, 1));
        Checks.refused("addShift: 80, on a cancelled one", FULL, STATE, x -> x.addShift(0, 14, 7, 63));
        RosterPay x = withWorker();
        for (int shift = 0; shift < 80; shift++) {
            int s = shift;
            Checks.due("addShift: " + shift, shift, () -> x.addShift(0, 4 * s, 95, 64));
        }
        Checks.due("addShift: shift 80", STATE, () -> x.addShift(0, 350, 0, 1));
    }

    // ---- promise 9

    private static void testCancel() {
        Checks.range("cancel: shift", FULL, INDEX, 0, 79, 0,
                (x, shift) -> x.cancel(shift) - FULL.make().pay(shift));
        Checks.refused("cancel: 0 of none", NOTHING, INDEX, x -> x.cancel(0));
        Checks.refused("cancel: 5 of 5", SOME, INDEX, x -> x.cancel(5));
        Checks.refused("cancel: a cancelled one", SOME, STATE, x -> x.cancel(4));
        Checks.refused("cancel: a cancelled one of many", FULL, STATE, x -> x.cancel(78));
        Checks.due("cancel: the first one", 51800, () -> SOME.make().cancel(0));
        Checks.due("cancel: the one before the cancelled one", 3996, () -> SOME.make().cancel(3));
        RosterPay x = withShift(64);
        Checks.due("cancel: pay with overtime and breaks", 16000 + 6000 + 24000 + 2000, () -> x.cancel(0));
        Checks.due("cancel: twice", STATE, () -> x.cancel(0));
        Checks.due("cancel: the number is not used again", 1, () -> x.addShift(0, 0, 0, 64));
        Checks.due("cancel: the old one still is cancelled", STATE, () -> x.cancel(0));
        Checks.due("cancel: the new one is not", 48000, () -> x.cancel(1));
    }

    // ---- promise 10

    private static void testTakeBreaks() {
        Checks.range("takeBreaks: shift", FULL, INDEX, 0, 79, 0, (x, shift) -> x.takeBreaks(shift, 1));
        Checks.range("takeBreaks: breaks", SOME, ARGUMENT, 0, 5, 1, (x, breaks) -> x.takeBreaks(0, breaks));
        Checks.range("takeBreaks: breaks, told again", SOME, ARGUMENT, 0, 5, 0, (x, breaks) -> {
            x.takeBreaks(0, breaks);
            return x.takeBreaks(0, 1) - breaks;
        });
        Checks.range("takeBreaks: breaks, missed", SOME, ARGUMENT, 0, 5, 0, (x, breaks) -> {
            x.takeBreaks(2, breaks);
            return x.missed(2) - (breaks == 0 ? 2 : 0);
        });
        Checks.refused("takeBreaks: 0 of none", NOTHING, INDEX, x -> x.takeBreaks(0, 1));
        Checks.refused("takeBreaks: a cancelled one", SOME, STATE, x -> x.takeBreaks(4, 0));
        Checks.refused("takeBreaks: a cancelled one, most", SOME, STATE, x -> x.takeBreaks(4, 5));
        Checks.refused("takeBreaks: a cancelled one, argument", SOME, ARGUMENT, x -> x.takeBreaks(4, -1));
        Checks.due("takeBreaks: in a shift that owes none", 0, () -> SOME.make().takeBreaks(3, 5));
    }

    // ---- promise 11

    private static void testShifts() {
        Checks.due("shifts: none", 0, () -> NOTHING.make().shifts());
        Checks.due("shifts: one is cancelled", 5, () -> SOME.make().shifts());
        Checks.due("shifts: as many as may be", 80, () -> FULL.make().shifts());
        RosterPay x = withShift(1);
        Checks.due("shifts: one", 1, () -> x.shifts());
        Checks.answer(() -> x.addShift(0, 0, 0, 1));
        Checks.due("shifts: one was refused", 1, () -> x.shifts());
        x.cancel(0);
        Checks.due("shifts: all are cancelled", 1, () -> x.shifts());
    }

    // ---- promise 12

    private static void testPaidQuarters() {
        Checks.range("paidQuarters: shift", SOME, INDEX, 0, 4, 0,
                (x, shift) -> x.paidQuarters(shift) - (shift == 0 ? 40 : 0));
        Checks.range("paidQuarters: shift", FULL, INDEX, 0, 79, 0,
                (x, shift) -> x.paidQuarters(shift) - 64 + shift % 3);
        Checks.refused("paidQuarters: 0 of none", NOTHING, INDEX, x -> x.paidQuarters(0));
        int[] own = {1, 11, 12, 13, 64};
        int[] paid = {12, 12, 12, 13, 64};
        for (int i = 0; i < own.length; i++) {
            RosterPay x = withShift(own[i]);
            Checks.due("paidQuarters: " + own[i], paid[i], () -> x.paidQuarters(0));
            x.cancel(0);
            Checks.due("paidQuarters: cancelled " + own[i], 0, () -> x.paidQuarters(0));
        }
    }

    // ---- promise 13

    private static void testPercentAt() {
        Checks.range("percentAt: shift", FULL, INDEX, 0, 79, 200, (x, shift) -> x.percentAt(shift, 61));
        Checks.range("percentAt: quarter of 40", SOME, INDEX, 0, 39, 0,
                (x, q) -> x.percentAt(0, q) - (q == 0 ? 125 : 250));
        Checks.range("percentAt: quarter of 20", SOME, INDEX, 0, 19, 0,
                (x, q) -> x.percentAt(1, q) - (q == 0 ? 150 : 125));
        Checks.range("percentAt: quarter of 64", SOME, INDEX, 0, 63, 0,
                (x, q) -> x.percentAt(2, q) - (q == 0 ? 150 : 200));
        Checks.range("percentAt: quarter of 5", SOME, INDEX, 0, 11, 100, (x, quarter) -> x.percentAt(3, quarter));
        Checks.refused("percentAt: quarter of a cancelled one", SOME, INDEX, x -> x.percentAt(4, 0));
        Checks.refused("percentAt: 0 of none", NOTHING, INDEX, x -> x.percentAt(0, 0));
        for (int own : new int[] {11, 12, 13}) {
            int paid = Math.max(12, own);
            Checks.due("percentAt: the last of " + own, 100, () -> withShift(own).percentAt(0, paid - 1));
            Checks.due("percentAt: behind the last of " + own, INDEX, () -> withShift(own).percentAt(0, paid));
        }
    }

    // ---- promise 14

    private static void testReasonAt() {
        Checks.range("reasonAt: shift", FULL, INDEX, 0, 79, RosterPay.OVERTIME, (x, shift) -> x.reasonAt(shift, 61));
        Checks.range("reasonAt: quarter of 40", SOME, INDEX, 0, 39, 0, (x, q) -> x.reasonAt(0, q) - (q == 0 ? 0 : 1));
        Checks.range("reasonAt: quarter of 20", SOME, INDEX, 0, 19, 0, (x, q) -> x.reasonAt(1, q) - (q == 0 ? 2 : 0));
        Checks.range("reasonAt: quarter of 64", SOME, INDEX, 0, 63, 0, (x, q) -> x.reasonAt(2, q) - (q == 0 ? 2 : -2));
        Checks.range("reasonAt: quarter of 5", SOME, INDEX, 0, 11, RosterPay.PLAIN,
                (x, quarter) -> x.reasonAt(3, quarter));
        Checks.refused("reasonAt: quarter of a cancelled one", SOME, INDEX, x -> x.reasonAt(4, 0));
        Checks.refused("reasonAt: 0 of none", NOTHING, INDEX, x -> x.reasonAt(0, 0));
        for (int own : new int[] {11, 12, 13}) {
            int paid = Math.max(12, own);
            Checks.due("reasonAt: the last of " + own, -1, () -> withShift(own).reasonAt(0, paid - 1));
            Checks.due("reasonAt: behind the last of " + own, INDEX, () -> withShift(own).reasonAt(0, paid));
        }
    }

    // ---- promise 15

    private static void testMissed() {
        Checks.range("missed: shift", FULL, INDEX, 0, 79, 2, (x, shift) -> x.missed(shift));
        Checks.range("missed: shift", SOME, INDEX, 0, 4, 0, (x, shift) -> x.missed(shift) - (shift == 0 ? 1 : 0));
        Checks.refused("missed: 0 of none", NOTHING, INDEX, x -> x.missed(0));
        RosterPay x = withShift(40);
        for (int taken = 0; taken <= 5; taken++) {
            x.takeBreaks(0, taken);
            Checks.due("missed: with " + taken, Math.max(0, 2 - taken), () -> x.missed(0));
        }
        x.takeBreaks(0, 0);
        Checks.due("missed: with none again", 2, () -> x.missed(0));
        Checks.due("missed: cancelled", 0, () -> withCancelledShift().missed(0));
    }

    // ---- promise 16

    private static void testPay() {
        Checks.range("pay: shift", SOME, INDEX, 0, 4, 0, (x, shift) -> x.pay(shift) - (shift == 0 ? 51800 : 0));
        Checks.range("pay: shift", FULL, INDEX, 0, 79, 0, (x, shift) -> x.pay(shift) - x.cancel(shift));
        Checks.refused("pay: 0 of none", NOTHING, INDEX, x -> x.pay(0));
        RosterPay x = withCancelledShift();
        Checks.due("pay: cancelled", 0, () -> x.pay(0));
        x.setBase(0, 10000);
        x.addRule(EVERY_DAY, 0, 96, EVERY_RANK, 400);
        Checks.due("pay: cancelled, told more afterwards", 0, () -> x.pay(0));
        Checks.due("pay: cancelled, by the rule", 0, () -> x.paidBy(0));
    }

    // ---- promise 17

    private static void testPayOf() {
        Checks.range("payOf: worker", SOME, INDEX, 0, 1, 0,
                (x, worker) -> x.payOf(worker, 0, 363) - (worker == 0 ? 149450 : 13480));
        Checks.range("payOf: from", SOME, ARGUMENT, 0, 363, 0,
                (x, from) -> x.payOf(0, from, 363) - (from == 0 ? 149450 : 0));
        for (int from : new int[] {0, 1, 10, 362, 363}) {
            Checks.range("payOf: from " + from + " to", SOME, ARGUMENT, from, 363, 1,
                    (x, to) -> Checks.number(x.payOf(0, from, to) >= 0));
        }
        Checks.refused("payOf: 0 of none", NOTHING, INDEX, x -> x.payOf(0, 0, 363));
        Checks.refused("payOf: from 364 to 364", SOME, ARGUMENT, x -> x.payOf(0, 364, 364));
        Checks.refused("payOf: from -1 to -1", SOME, ARGUMENT, x -> x.payOf(0, -1, -1));
        RosterPay x = SOME.make();
        int[] froms = {0, 0, 1, 0, 362, 363, 361, 1};
        int[] tos = {0, 361, 361, 362, 362, 363, 363, 363};
        int[] pays = {51800, 51800, 0, 149450, 97650, 0, 97650, 97650};
        for (int i = 0; i < froms.length; i++) {
            int n = i;
            Checks.due("payOf: from " + froms[i] + " to " + tos[i], pays[i], () -> x.payOf(0, froms[n], tos[n]));
        }
        Checks.due("payOf: before the first and behind", 0, () -> x.payOf(1, 0, 2));
        Checks.due("payOf: the first one of two", 3996, () -> x.payOf(1, 3, 5));
        Checks.due("payOf: both", 13480, () -> x.payOf(1, 3, 6));
        Checks.due("payOf: the second one of two", 9484, () -> x.payOf(1, 4, 6));
        Checks.due("payOf: a day on which one only goes on", 0, () -> x.payOf(1, 7, 7));
        Checks.due("payOf: a day of a cancelled one", 0, () -> x.payOf(0, 10, 10));
    }

    // ---- promise 18

    private static void testPaidBy() {
        Checks.range("paidBy: rule", SOME, INDEX, 0, 3, 0, (x, rule) -> x.paidBy(rule) - (rule == 0 ? 19824 : 0));
        Checks.range("paidBy: rule, on", FULL, INDEX, 0, 15, 1, (x, rule) -> Checks.number(x.paidBy(rule) >= 0));
        Checks.refused("paidBy: 0 of none", NOTHING, INDEX, x -> x.paidBy(0));
        RosterPay x = SOME.make();
        x.setRule(3, true);
        Checks.due("paidBy: the last one, on", 104 * 2100 + 32 * 999, () -> x.paidBy(3));
        x.setRule(3, false);
        Checks.due("paidBy: off again", 0, () -> x.paidBy(3));
        x.cancel(0);
        Checks.due("paidBy: without the first shift", 5824, () -> x.paidBy(0));
        x.cancel(1);
        Checks.due("paidBy: without the second one", 0, () -> x.paidBy(0));
    }

    // ---- promise 19

    private static void testWorked() {
        Checks.range("worked: worker", SOME, INDEX, 0, 1, 0,
                (x, worker) -> x.worked(worker, 0) - (worker == 0 ? 40 : 11));
        Checks.range("worked: week", SOME, ARGUMENT, 0, 51, 0, (x, week) -> x.worked(0, week) - (week == 0 ? 40 : 64));
        Checks.refused("worked: 0 of none", NOTHING, INDEX, x -> x.worked(0, 0));
        // A week of so many days that the number of the first one begins anew.
        Checks.refused("worked: wrap-around", SOME, ARGUMENT, x -> x.worked(0, 1 << 30));
        Checks.due("worked: a cancelled one", 0, () -> SOME.make().worked(0, 1));
        Checks.due("worked: the second week", 14, () -> SOME.make().worked(1, 1));
        Checks.due("worked: the week before the last", 0, () -> SOME.make().worked(0, 50));
    }

    // ---- promise 20

    private static void testExcess() {
        Checks.range("excess: worker", FULL, INDEX, 0, 11, 0,
                (x, worker) -> x.excess(worker, 0) - (worker == 0 ? 212 : 0));
        Checks.range("excess: group", FULL, ARGUMENT, 0, 12, 0,
                (x, group) -> x.excess(0, group) - (group == 0 ? 212 : 0));
        Checks.refused("excess: 0 of none", NOTHING, INDEX, x -> x.excess(0, 0));
        Checks.refused("excess: wrap-around", FULL, ARGUMENT, x -> x.excess(0, 1 << 30));
        RosterPay x = withWorker();
        for (int day = 353; day < 362; day++) {
            x.addShift(0, day, 0, 64);
        }
        x.addShift(0, 362, 95, 32);
        Checks.due("excess: 608 in the last group", 0, () -> x.excess(0, 12));
        x.addShift(0, 362, 94, 1);
        Checks.due("excess: 609 in the last group", 1, () -> x.excess(0, 12));
        Checks.due("excess: the group before", 0, () -> x.excess(0, 11));
        x.cancel(10);
        Checks.due("excess: 608 again", 0, () -> x.excess(0, 12));
    }
}

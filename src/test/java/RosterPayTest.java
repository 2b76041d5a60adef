import java.util.function.IntSupplier;

/** Tests of the promises 1 to 20, one method for each; ordinary inputs, edges and wrong inputs. */
public final class RosterPayTest {
    private static final int EVERY_DAY = 127;
    private static final int EVERY_RANK = 15;
    private static final int HOLIDAYS = 0;

    private static final int INDEX = Checks.INDEX;
    private static final int ARGUMENT = Checks.ARGUMENT;
    private static final int STATE = Checks.STATE;

    public static void main(String[] args) {
        testConstants();
        testNewObject();
        testSetBase();
        testAddRule();
        testRuleApplies();
        testSetRule();
        testSetHoliday();
        testAddWorker();
        testSetRank();
        testAddShift();
        testAddShiftOverlaps();
        testCancel();
        testTakeBreaks();
        testShifts();
        testPaidQuarters();
        testPercentAt();
        testReasonAt();
        testMissed();
        testPay();
        testPayOf();
        testPaidBy();
        testWorked();
        testExcess();
        Checks.finish();
    }

    // ---- helpers

    private static void due(String what, int want, IntSupplier call) {
        Checks.due(what, want, call);
    }

    private static int number(boolean isTrue) {
        return Checks.number(isTrue);
    }

    private static RosterPay withWorker(int rank) {
        RosterPay x = new RosterPay();
        x.addWorker(rank);
        return x;
    }

    private static RosterPay withShift(int day, int quarter, int quarters) {
        RosterPay x = withWorker(0);
        x.addShift(0, day, quarter, quarters);
        return x;
    }

    private static RosterPay withCancelledShift() {
        RosterPay x = withShift(0, 0, 40);
        x.cancel(0);
        return x;
    }

    // ---- promise 1

    private static void testConstants() {
        due("PLAIN", -1, () -> RosterPay.PLAIN);
        due("OVERTIME", -2, () -> RosterPay.OVERTIME);
    }

    private static void testNewObject() {
        RosterPay x = new RosterPay();
        due("new: shifts", 0, () -> x.shifts());
        due("new: no shift", INDEX, () -> x.pay(0));
        due("new: no rule", INDEX, () -> x.paidBy(0));
        due("new: no worker", INDEX, () -> x.worked(0, 0));
        for (int rank = 0; rank < 4; rank++) {
            int r = rank;
            due("new: base of " + rank, 500, () -> x.setBase(r, 1));
        }
        for (int day = 0; day < 364; day++) {
            int d = day;
            due("new: holiday " + day, 0, () -> number(x.setHoliday(d, false)));
        }
        RosterPay y = new RosterPay();
        due("new: objects are apart, base", 500, () -> y.setBase(0, 2));
        x.addWorker(0);
        due("new: objects are apart, worker", 0, () -> y.addWorker(0));
    }

    // ---- promise 2

    private static void testSetBase() {
        RosterPay x = withShift(0, 0, 12);
        due("setBase: first", 500, () -> x.setBase(0, 1));
        due("setBase: pay follows", 12, () -> x.pay(0));
        due("setBase: again", 1, () -> x.setBase(0, 10000));
        due("setBase: pay follows again", 120000, () -> x.pay(0));
        due("setBase: rank 3", 500, () -> x.setBase(3, 7));
        due("setBase: other ranks stay", 120000, () -> x.pay(0));
        due("setBase: rank -1", ARGUMENT, () -> x.setBase(-1, 5));
        due("setBase: rank 4", ARGUMENT, () -> x.setBase(4, 5));
        due("setBase: rank least", ARGUMENT, () -> x.setBase(Integer.MIN_VALUE, 5));
        due("setBase: rank most", ARGUMENT, () -> x.setBase(Integer.MAX_VALUE, 5));
        due("setBase: cents 0", ARGUMENT, () -> x.setBase(0, 0));
        due("setBase: cents -1", ARGUMENT, () -> x.setBase(0, -1));
        due("setBase: cents 10001", ARGUMENT, () -> x.setBase(0, 10001));
        due("setBase: what throws changes nothing", 10000, () -> x.setBase(0, 500));
        due("setBase: rank 3 was kept", 7, () -> x.setBase(3, 8));
    }

    // ---- promise 3

    private static void testAddRule() {
        RosterPay x = new RosterPay();
        testAddRuleArguments(x);
        due("addRule: widest", 0, () -> x.addRule(EVERY_DAY, 0, 96, EVERY_RANK, 400));
        due("addRule: narrowest", 1, () -> x.addRule(HOLIDAYS, 95, 96, 1, 100));
        for (int rule = 2; rule < 16; rule++) {
            int r = rule;
            due("addRule: " + rule, rule, () -> x.addRule(r, r, r + 1, 8, 100 + r));
        }
        due("addRule: 16 are most", STATE, () -> x.addRule(1, 0, 1, 1, 100));
        due("addRule: argument before state", ARGUMENT, () -> x.addRule(1, 0, 1, 1, 401));
        due("addRule: the refused is not there", INDEX, () -> x.paidBy(16));
        due("addRule: the last is there", 0, () -> x.paidBy(15));
        x.setRule(0, false);
        due("addRule: rules that are off count", STATE, () -> x.addRule(1, 0, 1, 1, 100));
    }

    private static void testAddRuleArguments(RosterPay x) {
        due("addRule: weekdays -1", ARGUMENT, () -> x.addRule(-1, 0, 96, 15, 150));
        due("addRule: weekdays 128", ARGUMENT, () -> x.addRule(128, 0, 96, 15, 150));
        due("addRule: from -1", ARGUMENT, () -> x.addRule(1, -1, 96, 15, 150));
        due("addRule: from 96", ARGUMENT, () -> x.addRule(1, 96, 97, 15, 150));
        due("addRule: from most", ARGUMENT, () -> x.addRule(1, Integer.MAX_VALUE, 96, 15, 150));
        due("addRule: to as from", ARGUMENT, () -> x.addRule(1, 10, 10, 15, 150));
        due("addRule: to before from", ARGUMENT, () -> x.addRule(1, 10, 9, 15, 150));
        due("addRule: to 97", ARGUMENT, () -> x.addRule(1, 0, 97, 15, 150));
        due("addRule: ranks 0", ARGUMENT, () -> x.addRule(1, 0, 96, 0, 150));
        due("addRule: ranks 16", ARGUMENT, () -> x.addRule(1, 0, 96, 16, 150));
        due("addRule: ranks -1", ARGUMENT, () -> x.addRule(1, 0, 96, -1, 150));
        due("addRule: percent 99", ARGUMENT, () -> x.addRule(1, 0, 96, 15, 99));
        due("addRule: percent 401", ARGUMENT, () -> x.addRule(1, 0, 96, 15, 401));
        due("addRule: what throws adds nothing", INDEX, () -> x.paidBy(0));
    }

    private static void testRuleApplies() {
        for (int weekday = 0; weekday < 7; weekday++) {
            testWeekday(weekday);
        }
        for (int rank = 0; rank < 4; rank++) {
            testRanks(rank);
        }
        RosterPay x = withShift(2, 10, 12);
        x.addRule(EVERY_DAY, 12, 14, EVERY_RANK, 120);
        due("rule: quarter before from", 100, () -> x.percentAt(0, 1));
        due("rule: quarter from", 120, () -> x.percentAt(0, 2));
        due("rule: quarter before to", 120, () -> x.percentAt(0, 3));
        due("rule: quarter to", 100, () -> x.percentAt(0, 4));
        RosterPay y = withShift(2, 90, 12);
        y.addRule(1 << 3, 0, 96, EVERY_RANK, 130);
        y.addRule(EVERY_DAY, 0, 3, EVERY_RANK, 140);
        due("rule: before midnight", 100, () -> y.percentAt(0, 5));
        due("rule: after midnight, quarters of the next day", 140, () -> y.percentAt(0, 6));
        due("rule: after midnight, the next weekday", 130, () -> y.percentAt(0, 9));
    }

    private static void testWeekday(int weekday) {
        RosterPay x = withWorker(0);
        x.addRule(1 << weekday, 0, 96, EVERY_RANK, 110);
        for (int day = 0; day < 14; day++) {
            int shift = x.addShift(0, day + 147, 0, 12);
            int want = day % 7 == weekday ? 110 : 100;
            due("rule: weekday " + weekday + " on day " + day, want, () -> x.percentAt(shift, 0));
        }
    }

    private static void testRanks(int rank) {
        for (int ranks = 1; ranks <= 15; ranks++) {
            RosterPay x = withWorker(rank);
            x.addRule(EVERY_DAY, 0, 96, ranks, 110);
            x.addShift(0, 0, 0, 12);
            int want = (ranks >> rank) % 2 == 1 ? 110 : 100;
            due("rule: ranks " + ranks + " for rank " + rank, want, () -> x.percentAt(0, 0));
        }
    }

    // ---- promise 4

    private static void testSetRule() {
        RosterPay x = withShift(0, 0, 12);
        due("setRule: none", INDEX, () -> number(x.setRule(0, true)));
        x.addRule(EVERY_DAY, 0, 96, EVERY_RANK, 200);
        x.addRule(EVERY_DAY, 0, 96, EVERY_RANK, 150);
        due("setRule: on at first", 1, () -> number(x.setRule(0, true)));
        due("setRule: still on", 200, () -> x.percentAt(0, 0));
        due("setRule: off", 1, () -> number(x.setRule(0, false)));
        due("setRule: the next one decides", 150, () -> x.percentAt(0, 0));
        due("setRule: off again", 0, () -> number(x.setRule(0, false)));
        due("setRule: on", 0, () -> number(x.setRule(0, true)));
        due("setRule: it decides again", 200, () -> x.percentAt(0, 0));
        due("setRule: the other was left", 1, () -> number(x.setRule(1, true)));
        due("setRule: -1", INDEX, () -> number(x.setRule(-1, false)));
        due("setRule: 2 of 2", INDEX, () -> number(x.setRule(2, false)));
        due("setRule: most", INDEX, () -> number(x.setRule(Integer.MAX_VALUE, false)));
    }

    // ---- promise 5

    private static void testSetHoliday() {
        RosterPay x = withShift(3, 90, 12);
        x.addRule(HOLIDAYS, 0, 96, EVERY_RANK, 250);
        x.addRule(1 << 3, 0, 96, EVERY_RANK, 125);
        due("setHoliday: not yet", 125, () -> x.percentAt(0, 0));
        due("setHoliday: was none", 0, () -> number(x.setHoliday(3, true)));
        due("setHoliday: the rule for holidays applies", 250, () -> x.percentAt(0, 0));
        due("setHoliday: not on the next day", 100, () -> x.percentAt(0, 6));
        due("setHoliday: was one", 1, () -> number(x.setHoliday(3, true)));
        x.setRule(0, false);
        due("setHoliday: rules of weekdays apply on holidays", 125, () -> x.percentAt(0, 0));
        x.setRule(0, true);
        due("setHoliday: was one again", 1, () -> number(x.setHoliday(3, false)));
        due("setHoliday: no more", 125, () -> x.percentAt(0, 0));
        due("setHoliday: next day", 0, () -> number(x.setHoliday(4, true)));
        due("setHoliday: behind midnight", 250, () -> x.percentAt(0, 6));
        due("setHoliday: before midnight", 125, () -> x.percentAt(0, 5));
        due("setHoliday: day 0", 0, () -> number(x.setHoliday(0, true)));
        due("setHoliday: day 363", 0, () -> number(x.setHoliday(363, true)));
        due("setHoliday: day 363 was one", 1, () -> number(x.setHoliday(363, true)));
        due("setHoliday: day -1", ARGUMENT, () -> number(x.setHoliday(-1, true)));
        due("setHoliday: day 364", ARGUMENT, () -> number(x.setHoliday(364, true)));
        due("setHoliday: day least", ARGUMENT, () -> number(x.setHoliday(Integer.MIN_VALUE, false)));
        RosterPay z = withShift(0, 0, 1);
        z.addRule(HOLIDAYS, 0, 96, EVERY_RANK, 300);
        z.setHoliday(0, true);
        due("setHoliday: first quarter of the first shift", 300, () -> z.percentAt(0, 0));
        RosterPay y = withShift(362, 95, 64);
        y.addRule(HOLIDAYS, 62, 63, EVERY_RANK, 400);
        y.setHoliday(363, true);
        due("setHoliday: last quarter of the last shift", 400, () -> y.percentAt(0, 63));
    }

    // ---- promise 6

    private static void testAddWorker() {
        RosterPay x = new RosterPay();
        due("addWorker: rank -1", ARGUMENT, () -> x.addWorker(-1));
        due("addWorker: rank 4", ARGUMENT, () -> x.addWorker(4));
        due("addWorker: what throws adds nothing", INDEX, () -> x.worked(0, 0));
        for (int worker = 0; worker < 12; worker++) {
            int rank = worker % 4;
            due("addWorker: " + worker, worker, () -> x.addWorker(rank));
        }
        due("addWorker: 12 are most", STATE, () -> x.addWorker(0));
        due("addWorker: argument before state", ARGUMENT, () -> x.addWorker(4));
        due("addWorker: the refused is not there", INDEX, () -> x.worked(12, 0));
        for (int worker = 0; worker < 12; worker++) {
            int w = worker;
            due("addWorker: rank of " + worker, worker % 4, () -> x.setRank(w, 0));
        }
    }

    // ---- promise 7

    private static void testSetRank() {
        RosterPay x = withWorker(2);
        x.addWorker(1);
        x.setBase(3, 900);
        x.addRule(EVERY_DAY, 0, 96, 1 << 3, 200);
        x.addShift(0, 0, 0, 12);
        x.addShift(1, 0, 0, 12);
        due("setRank: first", 2, () -> x.setRank(0, 3));
        due("setRank: base and rules follow", 12 * 1800, () -> x.pay(0));
        due("setRank: others stay", 6000, () -> x.pay(1));
        due("setRank: again", 3, () -> x.setRank(0, 0));
        due("setRank: rank 0", 6000, () -> x.pay(0));
        due("setRank: rank -1", ARGUMENT, () -> x.setRank(0, -1));
        due("setRank: rank 4", ARGUMENT, () -> x.setRank(0, 4));
        due("setRank: worker -1", INDEX, () -> x.setRank(-1, 0));
        due("setRank: worker 2", INDEX, () -> x.setRank(2, 0));
        due("setRank: worker before rank", INDEX, () -> x.setRank(2, 4));
        due("setRank: what throws changes nothing", 0, () -> x.setRank(0, 0));
    }

    // ---- promise 8

    private static void testAddShift() {
        RosterPay x = withWorker(0);
        due("addShift: worker -1", INDEX, () -> x.addShift(-1, 0, 0, 1));
        due("addShift: worker 1", INDEX, () -> x.addShift(1, 0, 0, 1));
        due("addShift: worker before day", INDEX, () -> x.addShift(1, -1, 0, 1));
        due("addShift: day -1", ARGUMENT, () -> x.addShift(0, -1, 0, 1));
        due("addShift: day 363", ARGUMENT, () -> x.addShift(0, 363, 0, 1));
        due("addShift: quarter -1", ARGUMENT, () -> x.addShift(0, 0, -1, 1));
        due("addShift: quarter 96", ARGUMENT, () -> x.addShift(0, 0, 96, 1));
        due("addShift: quarters 0", ARGUMENT, () -> x.addShift(0, 0, 0, 0));
        due("addShift: quarters 65", ARGUMENT, () -> x.addShift(0, 0, 0, 65));
        due("addShift: quarters most", ARGUMENT, () -> x.addShift(0, 0, 0, Integer.MAX_VALUE));
        due("addShift: what throws adds nothing", 0, () -> x.shifts());
        due("addShift: first day", 0, () -> x.addShift(0, 0, 0, 64));
        due("addShift: last day", 1, () -> x.addShift(0, 362, 95, 64));
        for (int shift = 2; shift < 80; shift++) {
            int day = shift;
            due("addShift: " + shift, shift, () -> x.addShift(0, day, 0, 1));
        }
        due("addShift: 80 are most", STATE, () -> x.addShift(0, 200, 0, 1));
        due("addShift: argument before state", ARGUMENT, () -> x.addShift(0, 200, 0, 65));
        x.cancel(5);
        due("addShift: cancelled ones count", STATE, () -> x.addShift(0, 5, 0, 1));
        due("addShift: 80 at the end", 80, () -> x.shifts());
    }

    private static void testAddShiftOverlaps() {
        RosterPay x = withWorker(0);
        x.addWorker(0);
        x.addShift(0, 1, 90, 10);
        due("overlap: the same", STATE, () -> x.addShift(0, 1, 90, 10));
        due("overlap: its first quarter", STATE, () -> x.addShift(0, 1, 89, 2));
        due("overlap: its last quarter", STATE, () -> x.addShift(0, 2, 3, 1));
        due("overlap: within", STATE, () -> x.addShift(0, 1, 95, 1));
        due("overlap: around", STATE, () -> x.addShift(0, 1, 80, 64));
        due("overlap: argument first", ARGUMENT, () -> x.addShift(0, 1, 90, 0));
        due("overlap: another worker", 1, () -> x.addShift(1, 1, 90, 10));
        due("overlap: just before", 2, () -> x.addShift(0, 1, 89, 1));
        due("overlap: just behind, where paid ones would come", 3, () -> x.addShift(0, 2, 4, 1));
        due("overlap: behind one quarter", 4, () -> x.addShift(0, 2, 5, 1));
        x.cancel(0);
        due("overlap: a cancelled one is no hindrance", 5, () -> x.addShift(0, 1, 91, 5));
        due("overlap: the new one is", STATE, () -> x.addShift(0, 1, 90, 2));
        due("overlap: beside the new one", 6, () -> x.addShift(0, 1, 96 - 6, 1));
    }

    // ---- promise 9

    private static void testCancel() {
        RosterPay x = withShift(0, 0, 20);
        x.addShift(0, 0, 20, 1);
        due("cancel: none", INDEX, () -> x.cancel(2));
        due("cancel: -1", INDEX, () -> x.cancel(-1));
        due("cancel: pay before, with the missed break", 11000, () -> x.cancel(0));
        due("cancel: twice", STATE, () -> x.cancel(0));
        due("cancel: no pay any more", 0, () -> x.pay(0));
        due("cancel: not worked any more", 1, () -> x.worked(0, 0));
        due("cancel: not in payOf", 6000, () -> x.payOf(0, 0, 363));
        due("cancel: shifts", 2, () -> x.shifts());
        due("cancel: the other", 6000, () -> x.cancel(1));
        x.setBase(0, 1000);
        due("cancel: a base afterwards", 0, () -> x.pay(0));
    }

    // ---- promise 10

    private static void testTakeBreaks() {
        RosterPay x = withShift(0, 0, 40);
        due("takeBreaks: 0 at first", 0, () -> x.takeBreaks(0, 1));
        due("takeBreaks: one of two missed", 1, () -> x.missed(0));
        due("takeBreaks: told before", 1, () -> x.takeBreaks(0, 5));
        due("takeBreaks: more than owed", 0, () -> x.missed(0));
        due("takeBreaks: 5 told before", 5, () -> x.takeBreaks(0, 0));
        due("takeBreaks: back to none", 2, () -> x.missed(0));
        due("takeBreaks: -1", ARGUMENT, () -> x.takeBreaks(0, -1));
        due("takeBreaks: 6", ARGUMENT, () -> x.takeBreaks(0, 6));
        due("takeBreaks: what throws changes nothing", 0, () -> x.takeBreaks(0, 2));
        due("takeBreaks: shift -1", INDEX, () -> x.takeBreaks(-1, 1));
        due("takeBreaks: shift 1", INDEX, () -> x.takeBreaks(1, 1));
        due("takeBreaks: shift before breaks", INDEX, () -> x.takeBreaks(1, 6));
        RosterPay y = withCancelledShift();
        due("takeBreaks: cancelled", STATE, () -> y.takeBreaks(0, 1));
        due("takeBreaks: argument before state", ARGUMENT, () -> y.takeBreaks(0, 6));
    }

    // ---- promise 11

    private static void testShifts() {
        RosterPay x = withWorker(0);
        due("shifts: none", 0, () -> x.shifts());
        x.addShift(0, 0, 0, 1);
        x.addShift(0, 1, 0, 1);
        due("shifts: two", 2, () -> x.shifts());
        x.cancel(1);
        due("shifts: cancelled ones included", 2, () -> x.shifts());
    }

    // ---- promise 12

    private static void testPaidQuarters() {
        int[] own = {1, 11, 12, 13, 64};
        int[] paid = {12, 12, 12, 13, 64};
        for (int i = 0; i < own.length; i++) {
            RosterPay x = withShift(0, 0, own[i]);
            due("paidQuarters: of " + own[i], paid[i], () -> x.paidQuarters(0));
        }
        RosterPay y = withCancelledShift();
        due("paidQuarters: cancelled", 0, () -> y.paidQuarters(0));
        due("paidQuarters: shift -1", INDEX, () -> y.paidQuarters(-1));
        due("paidQuarters: shift 1", INDEX, () -> y.paidQuarters(1));
    }

    // ---- promise 13

    private static void testPercentAt() {
        RosterPay x = withShift(0, 0, 64);
        int[] quarters = {0, 31, 32, 39, 40, 63};
        int[] percents = {100, 100, 150, 150, 200, 200};
        for (int i = 0; i < quarters.length; i++) {
            int quarter = quarters[i];
            due("percentAt: overtime at " + quarter, percents[i], () -> x.percentAt(0, quarter));
        }
        x.addRule(EVERY_DAY, 0, 96, EVERY_RANK, 160);
        x.addRule(EVERY_DAY, 0, 96, EVERY_RANK, 170);
        x.addRule(EVERY_DAY, 0, 96, EVERY_RANK, 165);
        due("percentAt: the greatest, no sum", 170, () -> x.percentAt(0, 31));
        due("percentAt: above overtime", 170, () -> x.percentAt(0, 39));
        due("percentAt: below overtime", 200, () -> x.percentAt(0, 40));
        due("percentAt: quarter -1", INDEX, () -> x.percentAt(0, -1));
        due("percentAt: quarter 64", INDEX, () -> x.percentAt(0, 64));
        due("percentAt: shift -1", INDEX, () -> x.percentAt(-1, 0));
        due("percentAt: shift 1", INDEX, () -> x.percentAt(1, 0));
        RosterPay y = withShift(0, 90, 1);
        y.addRule(1 << 1, 0, 96, EVERY_RANK, 300);
        due("percentAt: a quarter that would come behind", 300, () -> y.percentAt(0, 11));
        due("percentAt: behind the paid ones", INDEX, () -> y.percentAt(0, 12));
        RosterPay z = withCancelledShift();
        due("percentAt: cancelled", INDEX, () -> z.percentAt(0, 0));
    }

    // ---- promise 14

    private static void testReasonAt() {
        RosterPay x = withShift(0, 0, 64);
        due("reasonAt: plain", -1, () -> x.reasonAt(0, 31));
        due("reasonAt: overtime", -2, () -> x.reasonAt(0, 32));
        due("reasonAt: late overtime", -2, () -> x.reasonAt(0, 63));
        x.addRule(EVERY_DAY, 0, 96, EVERY_RANK, 100);
        due("reasonAt: a rule of 100 goes before PLAIN", 0, () -> x.reasonAt(0, 0));
        due("reasonAt: a rule of 100 does not go before overtime", -2, () -> x.reasonAt(0, 32));
        x.addRule(EVERY_DAY, 0, 96, EVERY_RANK, 150);
        due("reasonAt: the greater one", 1, () -> x.reasonAt(0, 0));
        due("reasonAt: a rule of 150 goes before overtime", 1, () -> x.reasonAt(0, 39));
        due("reasonAt: but not before late overtime", -2, () -> x.reasonAt(0, 40));
        x.addRule(EVERY_DAY, 0, 96, EVERY_RANK, 150);
        due("reasonAt: the lowest number", 1, () -> x.reasonAt(0, 0));
        x.addRule(EVERY_DAY, 0, 96, EVERY_RANK, 200);
        due("reasonAt: a rule of 200", 3, () -> x.reasonAt(0, 40));
        x.setRule(3, false);
        x.setRule(1, false);
        due("reasonAt: without the lowest", 2, () -> x.reasonAt(0, 32));
        due("reasonAt: overtime again", -2, () -> x.reasonAt(0, 40));
        due("reasonAt: quarter -1", INDEX, () -> x.reasonAt(0, -1));
        due("reasonAt: quarter 64", INDEX, () -> x.reasonAt(0, 64));
        due("reasonAt: shift -1", INDEX, () -> x.reasonAt(-1, 0));
        due("reasonAt: shift 1", INDEX, () -> x.reasonAt(1, 0));
        RosterPay y = withCancelledShift();
        due("reasonAt: cancelled", INDEX, () -> y.reasonAt(0, 0));
    }

    // ---- promise 15

    private static void testMissed() {
        int[] own = {1, 19, 20, 39, 40, 64};
        int[] owed = {0, 0, 1, 1, 2, 2};
        for (int i = 0; i < own.length; i++) {
            RosterPay x = withShift(0, 0, own[i]);
            due("missed: of " + own[i], owed[i], () -> x.missed(0));
            x.takeBreaks(0, 1);
            due("missed: of " + own[i] + " with one", Math.max(owed[i] - 1, 0), () -> x.missed(0));
        }
        RosterPay y = withCancelledShift();
        due("missed: cancelled", 0, () -> y.missed(0));
        due("missed: shift -1", INDEX, () -> y.missed(-1));
        due("missed: shift 1", INDEX, () -> y.missed(1));
    }

    // ---- promise 16

    private static void testPay() {
        RosterPay x = withShift(0, 0, 12);
        x.setBase(0, 3);
        x.addRule(EVERY_DAY, 0, 96, EVERY_RANK, 133);
        due("pay: each quarter is rounded down", 12 * 3, () -> x.pay(0));
        x.addRule(EVERY_DAY, 0, 1, EVERY_RANK, 134);
        due("pay: one quarter more", 11 * 3 + 4, () -> x.pay(0));
        RosterPay y = withShift(0, 0, 64);
        due("pay: overtime and breaks", 500 * 32 + 750 * 8 + 1000 * 24 + 4 * 500, () -> y.pay(0));
        y.addRule(EVERY_DAY, 0, 96, EVERY_RANK, 400);
        y.setBase(0, 10000);
        due("pay: breaks are paid at the base", 64 * 40000 + 4 * 10000, () -> y.pay(0));
        y.takeBreaks(0, 1);
        due("pay: one break taken", 64 * 40000 + 2 * 10000, () -> y.pay(0));
        RosterPay z = withShift(0, 0, 1);
        due("pay: least engagement", 6000, () -> z.pay(0));
        RosterPay c = withCancelledShift();
        due("pay: cancelled", 0, () -> c.pay(0));
        due("pay: shift -1", INDEX, () -> c.pay(-1));
        due("pay: shift 1", INDEX, () -> c.pay(1));
    }

    // ---- promise 17

    private static void testPayOf() {
        RosterPay x = withWorker(0);
        x.addWorker(0);
        x.addShift(0, 0, 95, 12);
        x.addShift(0, 10, 0, 13);
        x.addShift(0, 362, 95, 64);
        x.addShift(1, 10, 0, 14);
        due("payOf: all days", 6000 + 6500 + 48000, () -> x.payOf(0, 0, 363));
        due("payOf: from and to are included", 6500, () -> x.payOf(0, 10, 10));
        due("payOf: up to a day", 12500, () -> x.payOf(0, 0, 10));
        due("payOf: from a day", 54500, () -> x.payOf(0, 10, 363));
        due("payOf: between", 0, () -> x.payOf(0, 11, 361));
        due("payOf: where a shift goes on, it does not begin", 0, () -> x.payOf(0, 1, 9));
        due("payOf: the last day", 0, () -> x.payOf(0, 363, 363));
        due("payOf: another worker", 7000, () -> x.payOf(1, 0, 363));
        x.cancel(1);
        due("payOf: without cancelled ones", 54000, () -> x.payOf(0, 0, 363));
        due("payOf: from -1", ARGUMENT, () -> x.payOf(0, -1, 5));
        due("payOf: from 364", ARGUMENT, () -> x.payOf(0, 364, 364));
        due("payOf: to before from", ARGUMENT, () -> x.payOf(0, 5, 4));
        due("payOf: to 364", ARGUMENT, () -> x.payOf(0, 0, 364));
        due("payOf: worker -1", INDEX, () -> x.payOf(-1, 0, 0));
        due("payOf: worker 2", INDEX, () -> x.payOf(2, 0, 0));
        due("payOf: worker before days", INDEX, () -> x.payOf(2, -1, 0));
    }

    // ---- promise 18

    private static void testPaidBy() {
        RosterPay x = withWorker(0);
        x.addWorker(1);
        x.setBase(1, 333);
        x.addRule(EVERY_DAY, 0, 10, EVERY_RANK, 150);
        x.addRule(EVERY_DAY, 0, 11, EVERY_RANK, 150);
        x.addRule(EVERY_DAY, 9, 12, EVERY_RANK, 160);
        x.addShift(0, 0, 0, 20);
        x.addShift(1, 0, 0, 20);
        due("paidBy: rule 0, no breaks in it", 9 * 750 + 9 * 499, () -> x.paidBy(0));
        due("paidBy: behind an equal and a greater one", 0, () -> x.paidBy(1));
        due("paidBy: rule 2", 3 * 800 + 3 * 532, () -> x.paidBy(2));
        x.setRule(2, false);
        due("paidBy: rule 2 off", 0, () -> x.paidBy(2));
        due("paidBy: rule 1 then", 750 + 499, () -> x.paidBy(1));
        x.cancel(0);
        due("paidBy: without a cancelled shift", 10 * 499, () -> x.paidBy(0));
        due("paidBy: -1", INDEX, () -> x.paidBy(-1));
        due("paidBy: 3 of 3", INDEX, () -> x.paidBy(3));
        RosterPay y = withShift(0, 0, 64);
        y.addRule(EVERY_DAY, 0, 96, EVERY_RANK, 150);
        due("paidBy: not what overtime pays", 40 * 750, () -> y.paidBy(0));
        RosterPay z = withShift(0, 0, 1);
        z.addRule(EVERY_DAY, 0, 96, EVERY_RANK, 200);
        due("paidBy: least engagement", 12000, () -> z.paidBy(0));
    }

    // ---- promise 19

    private static void testWorked() {
        RosterPay x = withWorker(0);
        x.addWorker(0);
        x.addShift(0, 0, 0, 1);
        x.addShift(0, 6, 90, 20);
        x.addShift(1, 7, 0, 64);
        x.addShift(0, 362, 95, 64);
        due("worked: own quarters up to midnight", 7, () -> x.worked(0, 0));
        due("worked: behind midnight", 14, () -> x.worked(0, 1));
        due("worked: no more", 0, () -> x.worked(0, 2));
        due("worked: another worker", 64, () -> x.worked(1, 1));
        due("worked: another worker's week before", 0, () -> x.worked(1, 0));
        due("worked: the last week", 64, () -> x.worked(0, 51));
        x.cancel(1);
        due("worked: without cancelled ones", 1, () -> x.worked(0, 0));
        due("worked: without cancelled ones, behind midnight", 0, () -> x.worked(0, 1));
        due("worked: week -1", ARGUMENT, () -> x.worked(0, -1));
        due("worked: week 52", ARGUMENT, () -> x.worked(0, 52));
        due("worked: week most", ARGUMENT, () -> x.worked(0, Integer.MAX_VALUE));
        due("worked: worker -1", INDEX, () -> x.worked(-1, 0));
        due("worked: worker 2", INDEX, () -> x.worked(2, 0));
        due("worked: worker before week", INDEX, () -> x.worked(2, 52));
    }

    // ---- promise 20

    private static void testExcess() {
        RosterPay x = withWorker(0);
        x.addWorker(0);
        for (int day = 28; day < 37; day++) {
            x.addShift(0, day, 1, 64);
        }
        x.addShift(0, 54, 0, 32);
        due("excess: at 608", 0, () -> x.excess(0, 1));
        x.addShift(0, 55, 95, 20);
        due("excess: only quarters within the group", 1, () -> x.excess(0, 1));
        due("excess: the next group", 0, () -> x.excess(0, 2));
        due("excess: the group before", 0, () -> x.excess(0, 0));
        x.addShift(0, 27, 90, 7);
        due("excess: from before the group", 2, () -> x.excess(0, 1));
        due("excess: another worker", 0, () -> x.excess(1, 1));
        x.cancel(0);
        due("excess: below 608 again", 0, () -> x.excess(0, 1));
        for (int day = 337; day < 347; day++) {
            x.addShift(0, day, 0, 64);
        }
        x.addShift(0, 362, 95, 64);
        due("excess: the last group", 96, () -> x.excess(0, 12));
        due("excess: group -1", ARGUMENT, () -> x.excess(0, -1));
        due("excess: group 13", ARGUMENT, () -> x.excess(0, 13));
        due("excess: group most", ARGUMENT, () -> x.excess(0, Integer.MAX_VALUE));
        due("excess: worker -1", INDEX, () -> x.excess(-1, 0));
        due("excess: worker 2", INDEX, () -> x.excess(2, 0));
        due("excess: worker before group", INDEX, () -> x.excess(2, 13));
    }
}

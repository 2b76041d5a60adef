import java.util.ArrayList;
import java.util.Arrays;

/** An interpreter of rostered pay; what each call answers is promised in the document DOC.md. */
public final class RosterPay {
    /** Reasons besides rules. */
    public static final int PLAIN = -1, OVERTIME = -2;

    private static final int RANKS = 4;
    private static final int FIRST_BASE = 500;
    private static final int MOST_CENTS = 10000;
    private static final int MOST_RULES = 16;
    private static final int MOST_WORKERS = 12;
    private static final int MOST_SHIFTS = 80;

    private static final int DAYS = 364;
    private static final int DAYS_OF_WEEK = 7;
    private static final int WEEKS = 52;
    private static final int WEEKS_OF_GROUP = 4;
    private static final int GROUPS = 13;
    private static final int QUARTERS_OF_DAY = 96;
    private static final int QUARTERS_OF_WEEK = DAYS_OF_WEEK * QUARTERS_OF_DAY;

    private static final int PLAIN_PERCENT = 100;
    private static final int MOST_PERCENT = 400;
    private static final int OVERTIME_PERCENT = 150;
    private static final int OVERTIME_FROM = 32;
    private static final int LATE_OVERTIME_PERCENT = 200;
    private static final int LATE_OVERTIME_FROM = 40;

    private static final int LONGEST_SHIFT = 64;
    private static final int LEAST_PAID = 12;
    private static final int ONE_BREAK_FROM = 20;
    private static final int TWO_BREAKS_FROM = 40;
    private static final int MOST_BREAKS = 5;
    private static final int QUARTERS_OF_BREAK = 2;
    private static final int GROUP_LIMIT = 608;

    private final int[] bases;
    private final boolean[] holidays;
    private final ArrayList<Rule> rules;
    private final ArrayList<Worker> workers;
    private final ArrayList<Shift> roster;

    public RosterPay() {
        bases = new int[RANKS];
        Arrays.fill(bases, FIRST_BASE);
        holidays = new boolean[DAYS];
        rules = new ArrayList<>();
        workers = new ArrayList<>();
        roster = new ArrayList<>();
    }

    // ---- rules

    /** Sets the base of a rank and returns the base before. */
    public int setBase(int rank, int cents) throws IllegalArgumentException {
        if (rank < 0 || rank >= bases.length) {
            throw new IllegalArgumentException("no such rank");
        }
        checkArgument(cents, 1, MOST_CENTS);
        int before = bases[rank];
        bases[rank] = cents;
        return before;
    }

    /** Adds a rule and returns its number. */
    public int addRule(int weekdays, int from, int to, int ranks, int percent)
            throws IllegalArgumentException, IllegalStateException {
        checkArgument(weekdays, 0, (1 << DAYS_OF_WEEK) - 1);
        checkArgument(from, 0, QUARTERS_OF_DAY - 1);
        checkArgument(to, from + 1, QUARTERS_OF_DAY);
        checkArgument(ranks, 1, (1 << RANKS) - 1);
        checkArgument(percent, PLAIN_PERCENT, MOST_PERCENT);
        int number = rules.size();
        if (number >= MOST_RULES) {
            throw new IllegalStateException("no more rules");
        }
        rules.add(new Rule(number, weekdays, from, to, ranks, percent));
        return number;
    }

    /** Switches a rule on or off and returns whether it was on. */
    public boolean setRule(int rule, boolean isOn) throws IndexOutOfBoundsException {
        Rule found = findRule(rule);
        boolean before = found.isOn;
        found.isOn = isOn;
        return before;
    }

    /** Makes a day a holiday, or not, and returns whether it was one. */
    public boolean setHoliday(int day, boolean isHoliday) throws IllegalArgumentException {
        if (day < 0 || day >= holidays.length) {
            throw new IllegalArgumentException("no such day");
        }
        boolean before = holidays[day];
        holidays[day] = isHoliday;
        return before;
    }

    // ---- workers and shifts

    /** Adds a worker and returns the worker's number. */
    public int addWorker(int rank) throws IllegalArgumentException, IllegalStateException {
        checkArgument(rank, 0, RANKS - 1);
        int number = workers.size();
        if (number >= MOST_WORKERS) {
            throw new IllegalStateException("no more workers");
        }
        workers.add(new Worker(rank));
        return number;
    }

    /** Sets the rank of a worker, for all shifts, and returns the rank before. */
    public int setRank(int worker, int rank) throws IndexOutOfBoundsException, IllegalArgumentException {
        Worker found = findWorker(worker);
        checkArgument(rank, 0, RANKS - 1);
        int before = found.rank;
        found.rank = rank;
        return before;
    }

    /** Adds a shift and returns its number. */
    public int addShift(int worker, int day, int quarter, int quarters)
            throws IndexOutOfBoundsException, IllegalArgumentException, IllegalStateException {
        Worker found = findWorker(worker);
        // A shift may go on into the next day, so none begins on the last one.
        checkArgument(day, 0, DAYS - 2);
        checkArgument(quarter, 0, QUARTERS_OF_DAY - 1);
        checkArgument(quarters, 1, LONGEST_SHIFT);
        int start = day * QUARTERS_OF_DAY + quarter;
        int number = roster.size();
        if (number >= MOST_SHIFTS || overlapsAnother(found, start, start + quarters)) {
            throw new IllegalStateException("no room for the shift");
        }
        roster.add(new Shift(found, start, quarters));
        return number;
    }

    /** Cancels a shift and returns what its pay was. */
    public int cancel(int shift) throws IndexOutOfBoundsException, IllegalStateException {
        Shift found = findShift(shift);
        checkNotCancelled(found);
        int before = payFor(found);
        found.isCancelled = true;
        return before;
    }

    /** Tells how many breaks were taken in a shift and returns how many were told before. */
    public int takeBreaks(int shift, int breaks)
            throws IndexOutOfBoundsException, IllegalArgumentException, IllegalStateException {
        Shift found = findShift(shift);
        checkArgument(breaks, 0, MOST_BREAKS);
        checkNotCancelled(found);
        int before = found.breaksTaken;
        found.breaksTaken = breaks;
        return before;
    }

    /** Returns the number of shifts, cancelled ones included. */
    public int shifts() {
        return roster.size();
    }

    // ---- pay

    /** Returns how many quarters of a shift are paid. */
    public int paidQuarters(int shift) throws IndexOutOfBoundsException {
        return findShift(shift).paidLength();
    }

    /** Returns the percentage by which a quarter of a shift is paid. */
    public int percentAt(int shift, int quarter) throws IndexOutOfBoundsException {
        Shift found = findShift(shift);
        checkPaidQuarter(found, quarter);
        return percentOf(found, quarter);
    }

    /** Returns the reason of a quarter of a shift: a rule, OVERTIME or PLAIN. */
    public int reasonAt(int shift, int quarter) throws IndexOutOfBoundsException {
        Shift found = findShift(shift);
        checkPaidQuarter(found, quarter);
        Rule deciding = decidingRule(found, quarter);
        if (deciding != null) {
            return deciding.number;
        }
        return quarter >= OVERTIME_FROM ? OVERTIME : PLAIN;
    }

    /** Returns how many breaks were missed in a shift. */
    public int missed(int shift) throws IndexOutOfBoundsException {
        return findShift(shift).breaksMissed();
    }

    /** Returns the pay of a shift. */
    public int pay(int shift) throws IndexOutOfBoundsException {
        return payFor(findShift(shift));
    }

    /** Returns the pay of all shifts of a worker that begin on days from one to another one, both included. */
    public int payOf(int worker, int from, int to) throws IndexOutOfBoundsException, IllegalArgumentException {
        Worker found = findWorker(worker);
        checkArgument(from, 0, DAYS - 1);
        checkArgument(to, from, DAYS - 1);
        int sum = 0;
        for (int i = 0; i < roster.size(); i++) {
            Shift shift = roster.get(i);
            int day = shift.dayOf(0);
            if (shift.worker == found && day >= from && day <= to) {
                sum += payFor(shift);
            }
        }
        return sum;
    }

    /** Returns what is paid by a rule, as the reason, in all shifts. */
    public int paidBy(int rule) throws IndexOutOfBoundsException {
        Rule found = findRule(rule);
        int sum = 0;
        for (int i = 0; i < roster.size(); i++) {
            sum += payByRule(roster.get(i), found);
        }
        return sum;
    }

    // ---- hours

    /** Returns the quarters that a worker has worked in a week. */
    public int worked(int worker, int week) throws IndexOutOfBoundsException, IllegalArgumentException {
        Worker found = findWorker(worker);
        checkArgument(week, 0, WEEKS - 1);
        return workedInWeeks(found, week, 1);
    }

    /** Returns the excess of a worker in a group of four weeks. */
    public int excess(int worker, int group) throws IndexOutOfBoundsException, IllegalArgumentException {
        Worker found = findWorker(worker);
        checkArgument(group, 0, GROUPS - 1);
        int together = workedInWeeks(found, group * WEEKS_OF_GROUP, WEEKS_OF_GROUP);
        return Math.max(together - GROUP_LIMIT, 0);
    }

    // ---- what is asked of the arguments

    private static void checkArgument(int value, int least, int most) {
        if (value < least || value > most) {
            throw new IllegalArgumentException("an argument is out of range");
        }
    }

    private static void checkNotCancelled(Shift shift) {
        if (shift.isCancelled) {
            throw new IllegalStateException("the shift was cancelled");
        }
    }

    private static void checkPaidQuarter(Shift shift, int quarter) {
        if (quarter < 0 || quarter >= shift.paidLength()) {
            throw new IndexOutOfBoundsException("no such quarter");
        }
    }

    private Rule findRule(int rule) {
        if (rule < 0 || rule >= rules.size()) {
            throw new IndexOutOfBoundsException("no such rule");
        }
        return rules.get(rule);
    }

    private Worker findWorker(int worker) {
        if (worker < 0 || worker >= workers.size()) {
            throw new IndexOutOfBoundsException("no such worker");
        }
        return workers.get(worker);
    }

    private Shift findShift(int shift) {
        if (shift < 0 || shift >= roster.size()) {
            throw new IndexOutOfBoundsException("no such shift");
        }
        return roster.get(shift);
    }

    // ---- how a shift is paid

    private static int overtimePercent(int quarter) {
        if (quarter >= LATE_OVERTIME_FROM) {
            return LATE_OVERTIME_PERCENT;
        }
        return quarter >= OVERTIME_FROM ? OVERTIME_PERCENT : PLAIN_PERCENT;
    }

    /** The rule that is the reason of a paid quarter, or null if overtime alone, or nothing, raises it. */
    private Rule decidingRule(Shift shift, int quarter) {
        int day = shift.dayOf(quarter);
        int quarterOfDay = shift.quarterOfDay(quarter);
        boolean isHoliday = isHoliday(day);
        int greatest = overtimePercent(quarter);
        Rule deciding = null;
        for (int i = 0; i < rules.size(); i++) {
            Rule rule = rules.get(i);
            // With the same percentage a rule goes before overtime, but not before an earlier rule.
            boolean isDue = rule.percent > greatest || (rule.percent == greatest && deciding == null);
            if (isDue && rule.appliesTo(shift.worker.rank, day, quarterOfDay, isHoliday)) {
                greatest = rule.percent;
                deciding = rule;
            }
        }
        return deciding;
    }

    private int percentOf(Shift shift, int quarter) {
        Rule deciding = decidingRule(shift, quarter);
        return deciding != null ? deciding.percent : overtimePercent(quarter);
    }

    private int payFor(Shift shift) {
        int base = baseOf(shift.worker.rank);
        int sum = shift.breaksMissed() * QUARTERS_OF_BREAK * base;
        for (int quarter = 0; quarter < shift.paidLength(); quarter++) {
            sum += amount(base, percentOf(shift, quarter));
        }
        return sum;
    }

    private int payByRule(Shift shift, Rule rule) {
        int base = baseOf(shift.worker.rank);
        int sum = 0;
        for (int quarter = 0; quarter < shift.paidLength(); quarter++) {
            Rule deciding = decidingRule(shift, quarter);
            if (deciding != null && deciding.number == rule.number) {
                sum += amount(base, rule.percent);
            }
        }
        return sum;
    }

    // Every quarter is rounded down for itself, before quarters are added.
    private static int amount(int base, int percent) {
        return base * percent / 100;
    }

    private int baseOf(int rank) {
        return rank >= 0 && rank < bases.length ? bases[rank] : 0;
    }

    private boolean isHoliday(int day) {
        return day >= 0 && day < holidays.length && holidays[day];
    }

    // ---- when workers work

    private boolean overlapsAnother(Worker worker, int start, int end) {
        return workedBetween(worker, start, end) > 0;
    }

    private int workedInWeeks(Worker worker, int week, int weeks) {
        return workedBetween(worker, week * QUARTERS_OF_WEEK, (week + weeks) * QUARTERS_OF_WEEK);
    }

    private int workedBetween(Worker worker, int start, int end) {
        int sum = 0;
        for (int i = 0; i < roster.size(); i++) {
            Shift shift = roster.get(i);
            if (shift.worker == worker && !shift.isCancelled) {
                sum += shift.ownBetween(start, end);
            }
        }
        return sum;
    }

    // ---- what is told

    private static final class Rule {
        final int number;
        final int weekdays;
        final int from;
        final int to;
        final int ranks;
        final int percent;
        boolean isOn;

        Rule(int number, int weekdays, int from, int to, int ranks, int percent) {
            this.number = number;
            this.weekdays = weekdays;
            this.from = from;
            this.to = to;
            this.ranks = ranks;
            this.percent = percent;
            this.isOn = true;
        }

        boolean appliesTo(int rank, int day, int quarter, boolean isHoliday) {
            return isOn && hasBit(ranks, rank) && quarter >= from && quarter < to && isForDay(day, isHoliday);
        }

        private boolean isForDay(int day, boolean isHoliday) {
            return weekdays == 0 ? isHoliday : hasBit(weekdays, day % DAYS_OF_WEEK);
        }

        private static boolean hasBit(int bits, int bit) {
            return (bits >> bit & 1) == 1;
        }
    }

    private static final class Worker {
        int rank;

        Worker(int rank) {
            this.rank = rank;
        }
    }

    private static final class Shift {
        final Worker worker;
        /** Counted in quarters from the quarter 0 of the day 0 on. */
        final int start;
        final int quarters;
        int breaksTaken;
        boolean isCancelled;

        Shift(Worker worker, int start, int quarters) {
            this.worker = worker;
            this.start = start;
            this.quarters = quarters;
            this.breaksTaken = 0;
            this.isCancelled = false;
        }

        int paidLength() {
            return isCancelled ? 0 : Math.max(quarters, LEAST_PAID);
        }

        int dayOf(int quarter) {
            return (start + quarter) / QUARTERS_OF_DAY;
        }

        int quarterOfDay(int quarter) {
            return (start + quarter) % QUARTERS_OF_DAY;
        }

        int breaksMissed() {
            return isCancelled ? 0 : Math.max(breaksOwed() - breaksTaken, 0);
        }

        private int breaksOwed() {
            if (quarters >= TWO_BREAKS_FROM) {
                return 2;
            }
            return quarters >= ONE_BREAK_FROM ? 1 : 0;
        }

        int ownBetween(int first, int end) {
            return Math.max(Math.min(start + quarters, end) - Math.max(start, first), 0);
        }
    }
}

import java.util.ArrayList;
import java.util.List;
import java.util.Random;

/** Long runs of calls, right and wrong ones, compared with a slow model that holds every quarter by itself. */
public final class RosterPayModelTest {
    private static final int RUNS = 400;
    private static final int CALLS = 512;
    private static final String[] NAMES = {
        "setBase", "addRule", "setRule", "setHoliday", "addWorker", "setRank", "addShift", "cancel", "takeBreaks",
        "shifts", "paidQuarters", "percentAt", "reasonAt", "missed", "pay", "payOf", "paidBy", "worked", "excess"};
    private static final int[] ARGUMENTS = {2, 5, 2, 2, 1, 2, 4, 1, 2, 0, 1, 2, 2, 1, 1, 3, 1, 2, 2};
    private static final int[] WEIGHTS = {2, 4, 4, 3, 2, 2, 30, 3, 6, 1, 3, 12, 12, 4, 12, 8, 8, 8, 5};

    /** The seed is fixed, so that every run of the test makes the same calls. */
    private static final Random RANDOM = new Random(20261119L);

    public static void main(String[] args) {
        int wrong = 0;
        for (int run = 0; run < RUNS && wrong < 10; run++) {
            wrong += isRunRight(run) ? 0 : 1;
        }
        System.out.println(wrong == 0 ? "all runs are as due" : wrong + " runs are not as due");
        if (wrong != 0) {
            System.exit(1);
        }
    }

    private static boolean isRunRight(int run) {
        RosterPay program = new RosterPay();
        Model model = new Model();
        int days = 2 + RANDOM.nextInt(run % 2 == 0 ? 20 : 362);
        for (int call = 0; call < CALLS; call++) {
            int kind = call == 0 ? 4 : kindOfCall();
            int[] a = new int[5];
            for (int i = 0; i < ARGUMENTS[kind]; i++) {
                a[i] = argument(kind, i, a, days);
            }
            String got = answerOfProgram(program, kind, a);
            String want = model.answer(kind, a);
            if (!got.equals(want)) {
                System.out.println("run " + run + ", call " + call + ": " + NAMES[kind]
                        + java.util.Arrays.toString(java.util.Arrays.copyOf(a, ARGUMENTS[kind]))
                        + " answered " + got + ", due is " + want);
                return false;
            }
        }
        return true;
    }

    private static int kindOfCall() {
        int sum = 0;
        for (int weight : WEIGHTS) {
            sum += weight;
        }
        int left = RANDOM.nextInt(sum);
        int kind = 0;
        while (left >= WEIGHTS[kind]) {
            left -= WEIGHTS[kind];
            kind++;
        }
        return kind;
    }

    private static int argument(int kind, int i, int[] a, int days) {
        if (RANDOM.nextInt(25) == 0) {
            int[] odd = {-1, Integer.MIN_VALUE, Integer.MAX_VALUE, 0, 4, 6, 12, 13, 16, 52, 64, 65, 80, 96, 97, 363, 364};
            return odd[RANDOM.nextInt(odd.length)];
        }
        switch (NAMES[kind]) {
            case "setBase": return i == 0 ? upTo(3) : 1 + upTo(RANDOM.nextBoolean() ? 9999 : 20);
            case "addRule": return ruleArgument(i, a);
            case "setRule": return i == 0 ? upTo(6) : upTo(1);
            case "setHoliday": return i == 0 ? upTo(days) : upTo(1);
            case "addWorker": return upTo(3);
            case "setRank": return i == 0 ? upTo(2) : upTo(3);
            case "addShift": return i == 0 ? upTo(2) : i == 1 ? upTo(days) : i == 2 ? upTo(95) : 1 + upTo(63);
            case "takeBreaks": return i == 0 ? upTo(40) : upTo(5);
            case "payOf": return i == 0 ? upTo(2) : i == 1 ? upTo(days) : a[1] + upTo(days);
            case "paidBy": return upTo(6);
            case "worked": return i == 0 ? upTo(2) : upTo(days / 7);
            case "excess": return i == 0 ? upTo(2) : upTo(days / 28);
            default: return i == 0 ? upTo(40) : upTo(64);
        }
    }

    private static int ruleArgument(int i, int[] a) {
        switch (i) {
            case 0: return RANDOM.nextInt(4) == 0 ? 0 : upTo(127);
            case 1: return upTo(95);
            case 2: return Math.max(a[1], 0) % 96 + 1 + upTo(95 - Math.max(a[1], 0) % 96);
            case 3: return 1 + upTo(14);
            default: return 100 + 25 * upTo(6);
        }
    }

    private static int upTo(int most) {
        return RANDOM.nextInt(Math.max(most, 0) + 1);
    }

    private static String answerOfProgram(RosterPay x, int kind, int[] a) {
        try {
            switch (NAMES[kind]) {
                case "setBase": return "" + x.setBase(a[0], a[1]);
                case "addRule": return "" + x.addRule(a[0], a[1], a[2], a[3], a[4]);
                case "setRule": return "" + x.setRule(a[0], a[1] == 1);
                case "setHoliday": return "" + x.setHoliday(a[0], a[1] == 1);
                case "addWorker": return "" + x.addWorker(a[0]);
                case "setRank": return "" + x.setRank(a[0], a[1]);
                case "addShift": return "" + x.addShift(a[0], a[1], a[2], a[3]);
                case "cancel": return "" + x.cancel(a[0]);
                case "takeBreaks": return "" + x.takeBreaks(a[0], a[1]);
                case "shifts": return "" + x.shifts();
                case "paidQuarters": return "" + x.paidQuarters(a[0]);
                case "percentAt": return "" + x.percentAt(a[0], a[1]);
                case "reasonAt": return "" + x.reasonAt(a[0], a[1]);
                case "missed": return "" + x.missed(a[0]);
                case "pay": return "" + x.pay(a[0]);
                case "payOf": return "" + x.payOf(a[0], a[1], a[2]);
                case "paidBy": return "" + x.paidBy(a[0]);
                case "worked": return "" + x.worked(a[0], a[1]);
                default: return "" + x.excess(a[0], a[1]);
            }
        } catch (RuntimeException e) {
            // What the library or the machine throws is wrong even if it is of the kind that is due.
            boolean isThrownByProgram = e.getStackTrace()[0].getClassName().equals("RosterPay");
            return (isThrownByProgram ? "" : "not by the program: ") + e.getClass().getSimpleName();
        }
    }

    /** The document read once more: rows of numbers, and every quarter looked at by itself. */
    private static final class Model {
        private static final String INDEX = "IndexOutOfBoundsException";
        private static final String ARGUMENT = "IllegalArgumentException";
        private static final String STATE = "IllegalStateException";

        private final int[] base = {500, 500, 500, 500};
        private final boolean[] isHoliday = new boolean[364];
        private final List<int[]> rules = new ArrayList<>();
        private final List<Boolean> ruleIsOn = new ArrayList<>();
        private final List<Integer> rank = new ArrayList<>();
        /** Rows of worker, day, quarter, quarters, breaks taken, 1 if cancelled. */
        private final List<int[]> shifts = new ArrayList<>();

        String answer(int kind, int[] a) {
            switch (NAMES[kind]) {
                case "setBase": return setBase(a);
                case "addRule": return addRule(a);
                case "setRule": return isNone(rules, a[0]) ? INDEX : "" + ruleIsOn.set(a[0], a[1] == 1);
                case "setHoliday": return setHoliday(a);
                case "addWorker": return addWorker(a);
                case "setRank": return isNone(rank, a[0]) ? INDEX : isOut(a[1], 0, 3) ? ARGUMENT : "" + rank.set(a[0], a[1]);
                case "addShift": return addShift(a);
                case "shifts": return "" + shifts.size();
                case "payOf": return payOf(a);
                case "paidBy": return isNone(rules, a[0]) ? INDEX : "" + paidBy(a[0]);
                case "worked": return isNone(rank, a[0]) ? INDEX : isOut(a[1], 0, 51) ? ARGUMENT : "" + worked(a[0], a[1]);
                case "excess": return isNone(rank, a[0]) ? INDEX : isOut(a[1], 0, 12) ? ARGUMENT : "" + excess(a[0], a[1]);
                default: return isNone(shifts, a[0]) ? INDEX : ofShift(NAMES[kind], shifts.get(a[0]), a[1]);
            }
        }

        private static boolean isNone(List<?> list, int number) {
            return isOut(number, 0, list.size() - 1);
        }

        private static boolean isOut(int value, int least, int most) {
            return value < least || value > most;
        }

        private String setBase(int[] a) {
            if (isOut(a[0], 0, 3) || isOut(a[1], 1, 10000)) {
                return ARGUMENT;
            }
            String before = "" + base[a[0]];
            base[a[0]] = a[1];
            return before;
        }

        private String addRule(int[] a) {
            boolean isWrong = isOut(a[0], 0, 127) || isOut(a[1], 0, 95) || isOut(a[2], a[1] + 1, 96)
                    || isOut(a[3], 1, 15) || isOut(a[4], 100, 400);
            if (isWrong || rules.size() == 16) {
                return isWrong ? ARGUMENT : STATE;
            }
            rules.add(a.clone());
            ruleIsOn.add(true);
            return "" + (rules.size() - 1);
        }

        private String setHoliday(int[] a) {
            if (isOut(a[0], 0, 363)) {
                return ARGUMENT;
            }
            String before = "" + isHoliday[a[0]];
            isHoliday[a[0]] = a[1] == 1;
            return before;
        }

        private String addWorker(int[] a) {
            if (isOut(a[0], 0, 3) || rank.size() == 12) {
                return isOut(a[0], 0, 3) ? ARGUMENT : STATE;
            }
            rank.add(a[0]);
            return "" + (rank.size() - 1);
        }

        private String addShift(int[] a) {
            if (isNone(rank, a[0])) {
                return INDEX;
            }
            if (isOut(a[1], 0, 362) || isOut(a[2], 0, 95) || isOut(a[3], 1, 64)) {
                return ARGUMENT;
            }
            boolean[] isTaken = ownQuarters(a[0]);
            boolean isRefused = shifts.size() == 80;
            for (int i = 0; i < a[3]; i++) {
                isRefused |= isTaken[a[1] * 96 + a[2] + i];
            }
            if (isRefused) {
                return STATE;
            }
            shifts.add(new int[] {a[0], a[1], a[2], a[3], 0, 0});
            return "" + (shifts.size() - 1);
        }

        private boolean[] ownQuarters(int worker) {
            boolean[] isOwn = new boolean[364 * 96];
            for (int[] s : shifts) {
                for (int i = 0; i < s[3] && s[0] == worker && s[5] == 0; i++) {
                    isOwn[s[1] * 96 + s[2] + i] = true;
                }
            }
            return isOwn;
        }

        private String ofShift(String name, int[] s, int other) {
            boolean isCancelled = s[5] == 1;
            switch (name) {
                case "cancel": {
                    String before = "" + pay(s);
                    s[5] = 1;
                    return isCancelled ? STATE : before;
                }
                case "takeBreaks": {
                    if (isOut(other, 0, 5) || isCancelled) {
                        return isOut(other, 0, 5) ? ARGUMENT : STATE;
                    }
                    String before = "" + s[4];
                    s[4] = other;
                    return before;
                }
                case "paidQuarters": return "" + paid(s);
                case "percentAt": return isOut(other, 0, paid(s) - 1) ? INDEX : "" + percent(s, other);
                case "reasonAt": return isOut(other, 0, paid(s) - 1) ? INDEX : "" + reason(s, other);
                case "missed": return "" + missed(s);
                default: return "" + pay(s);
            }
        }

        private static int paid(int[] s) {
            return s[5] == 1 ? 0 : s[3] < 12 ? 12 : s[3];
        }

        private static int missed(int[] s) {
            int owed = (s[3] >= 20 ? 1 : 0) + (s[3] >= 40 ? 1 : 0);
            return s[5] == 1 || s[4] > owed ? 0 : owed - s[4];
        }

        private boolean applies(int rule, int[] s, int i) {
            int[] r = rules.get(rule);
            int day = s[1] + (s[2] + i > 95 ? 1 : 0);
            int quarter = s[2] + i > 95 ? s[2] + i - 96 : s[2] + i;
            boolean isDay = r[0] == 0 ? isHoliday[day] : (r[0] & 1 << day % 7) != 0;
            return ruleIsOn.get(rule) && isDay && quarter >= r[1] && quarter < r[2] && (r[3] & 1 << rank.get(s[0])) != 0;
        }

        private static int overtime(int i) {
            return i >= 40 ? 200 : i >= 32 ? 150 : 0;
        }

        private int percent(int[] s, int i) {
            int greatest = Math.max(100, overtime(i));
            for (int rule = 0; rule < rules.size(); rule++) {
                greatest = applies(rule, s, i) ? Math.max(greatest, rules.get(rule)[4]) : greatest;
            }
            return greatest;
        }

        private int reason(int[] s, int i) {
            int percent = percent(s, i);
            for (int rule = 0; rule < rules.size(); rule++) {
                if (rules.get(rule)[4] == percent && applies(rule, s, i)) {
                    return rule;
                }
            }
            return percent == overtime(i) ? -2 : -1;
        }

        private int pay(int[] s) {
            int sum = missed(s) * 2 * base[rank.get(s[0])];
            for (int i = 0; i < paid(s); i++) {
                sum += base[rank.get(s[0])] * percent(s, i) / 100;
            }
            return sum;
        }

        private String payOf(int[] a) {
            if (isNone(rank, a[0])) {
                return INDEX;
            }
            if (isOut(a[1], 0, 363) || isOut(a[2], a[1], 363)) {
                return ARGUMENT;
            }
            int sum = 0;
            for (int[] s : shifts) {
                sum += s[0] == a[0] && s[1] >= a[1] && s[1] <= a[2] ? pay(s) : 0;
            }
            return "" + sum;
        }

        private int paidBy(int rule) {
            int sum = 0;
            for (int[] s : shifts) {
                for (int i = 0; i < paid(s); i++) {
                    sum += reason(s, i) == rule ? base[rank.get(s[0])] * percent(s, i) / 100 : 0;
                }
            }
            return sum;
        }

        private int worked(int worker, int week) {
            boolean[] isOwn = ownQuarters(worker);
            int sum = 0;
            for (int i = week * 672; i < week * 672 + 672; i++) {
                sum += isOwn[i] ? 1 : 0;
            }
            return sum;
        }

        private int excess(int worker, int group) {
            int sum = -608;
            for (int week = group * 4; week < group * 4 + 4; week++) {
                sum += worked(worker, week);
            }
            return Math.max(0, sum);
        }
    }
}

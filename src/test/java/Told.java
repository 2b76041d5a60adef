/** What has been told to an object: made anew as often as a test wants it, and asked for all that it answers. */
enum Told {
    NOTHING {
        @Override
        void tell(RosterPay x) {
        }
    },

    /** Four rules, the last one off; two workers; five shifts, the last one cancelled. */
    SOME {
        @Override
        void tell(RosterPay x) {
            x.setBase(1, 700);
            x.setBase(3, 333);
            x.addRule(3, 0, 96, 15, 125);
            x.addRule(0, 8, 40, 6, 250);
            x.addRule(127, 88, 96, 15, 150);
            x.addRule(127, 0, 96, 15, 300);
            x.setRule(3, false);
            x.setHoliday(1, true);
            x.setHoliday(363, true);
            x.addWorker(1);
            x.addWorker(3);
            x.addShift(0, 0, 80, 40);
            x.addShift(1, 6, 90, 20);
            x.addShift(0, 362, 95, 64);
            x.addShift(1, 3, 0, 5);
            x.addShift(0, 10, 0, 30);
            x.takeBreaks(0, 1);
            x.takeBreaks(4, 3);
            x.cancel(4);
        }
    },

    /** As many rules, workers and shifts as there may be; the shifts 7 and 78 are cancelled. */
    FULL {
        @Override
        void tell(RosterPay x) {
            for (int rule = 0; rule < 16; rule++) {
                int weekdays = rule == 15 ? 0 : 1 << rule % 7;
                x.addRule(weekdays, rule * 6, rule * 6 + 6, 15, 100 + 20 * rule);
            }
            for (int worker = 0; worker < 12; worker++) {
                x.addWorker(worker % 4);
            }
            for (int shift = 0; shift < 80; shift++) {
                x.addShift(shift / 14, shift % 14 * 2, shift, 64 - shift % 3);
            }
            x.setBase(2, 901);
            x.setHoliday(4, true);
            x.takeBreaks(1, 2);
            x.cancel(7);
            x.cancel(78);
        }
    };

    /** An object may be used for 512 calls, so that all its answers are asked for in parts, each of another object. */
    static final int PARTS = 4;

    private static final int[] WEEKS = {0, 1, 2, 3, 4, 14, 51};
    private static final int[] GROUPS = {0, 1, 12};
    private static final int[] QUARTERS = {0, 1, 5, 6, 8, 11, 12, 15, 16, 24, 31, 32, 39, 40, 63};

    private final String[] twins = new String[PARTS];

    abstract void tell(RosterPay x);

    RosterPay make() {
        RosterPay x = new RosterPay();
        tell(x);
        return x;
    }

    String answersOfTwin(int part) {
        if (twins[part] == null) {
            twins[part] = answers(make(), part);
        }
        return twins[part];
    }

    /** Part 3 tells while it asks: the object is of no use afterwards. */
    static String answers(RosterPay x, int part) {
        StringBuilder all = new StringBuilder();
        switch (part) {
            case 0 -> addShifts(all, x);
            case 1 -> addQuarters(all, x);
            case 2 -> addSums(all, x);
            default -> addWhatIsTold(all, x);
        }
        return all.toString();
    }

    private static void addShifts(StringBuilder all, RosterPay x) {
        int shifts = x.shifts();
        all.append("shifts ").append(shifts);
        for (int shift = 0; shift < shifts; shift++) {
            all.append(", shift ").append(shift).append(": ").append(x.paidQuarters(shift))
                    .append(' ').append(x.missed(shift)).append(' ').append(x.pay(shift));
        }
    }

    private static void addQuarters(StringBuilder all, RosterPay x) {
        int shifts = x.shifts();
        for (int shift = 0; shift < shifts; shift++) {
            boolean isAskedThoroughly = shift < 5;
            all.append(", shift ").append(shift).append(":");
            for (int i = 0; i < (isAskedThoroughly ? QUARTERS.length : 1); i++) {
                int s = shift;
                int quarter = QUARTERS[i];
                all.append(' ').append(Checks.answer(() -> x.percentAt(s, quarter)))
                        .append('/').append(Checks.answer(() -> x.reasonAt(s, quarter)));
            }
        }
    }

    private static void addSums(StringBuilder all, RosterPay x) {
        for (int i = 0; i < 16; i++) {
            int rule = i;
            all.append(", rule ").append(rule).append(": ").append(Checks.answer(() -> x.paidBy(rule)));
        }
        for (int i = 0; i < 12; i++) {
            int worker = i;
            all.append(", worker ").append(worker).append(": ")
                    .append(Checks.answer(() -> x.payOf(worker, 0, 363)));
            for (int week : WEEKS) {
                all.append(' ').append(Checks.answer(() -> x.worked(worker, week)));
            }
            for (int group : GROUPS) {
                all.append(' ').append(Checks.answer(() -> x.excess(worker, group)));
            }
        }
    }

    private static void addWhatIsTold(StringBuilder all, RosterPay x) {
        for (int shift = 0; shift < 80; shift++) {
            int s = shift;
            all.append(", breaks ").append(Checks.answer(() -> x.takeBreaks(s, 0)));
        }
        for (int rule = 0; rule < 16; rule++) {
            int r = rule;
            all.append(", on ").append(Checks.answer(() -> Checks.number(x.setRule(r, true))));
        }
        for (int worker = 0; worker < 12; worker++) {
            int w = worker;
            all.append(", rank ").append(Checks.answer(() -> x.setRank(w, 0)));
        }
        for (int rank = 0; rank < 4; rank++) {
            all.append(", base ").append(x.setBase(rank, 1));
        }
        for (int day = 0; day < 364; day += day == 11 ? 350 : 1) {
            all.append(", holiday ").append(x.setHoliday(day, true));
        }
        all.append(", next ").append(Checks.answer(() -> x.addRule(1, 0, 1, 1, 100)))
                .append(' ').append(Checks.answer(() -> x.addWorker(0)))
                .append(' ').append(Checks.answer(() -> x.addShift(0, 200, 0, 1)));
    }
}

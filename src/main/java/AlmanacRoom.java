import java.util.ArrayList;

/** A room for calendars. */
public final class AlmanacRoom {
    private static final int DAYS = 3000000;
    private static final int YEARS = 4000;
    private static final int WEEK = 7;
    private static final int MONTHS = 12;
    private static final int NONE = -1;

    private static final int BY_MONTHS = 0;
    private static final int BY_MOON = 2;

    private static final int DAYS_BEHIND = 2;
    private static final int WEEKDAY_BEHIND = 3;
    private static final int QUARTER_BEHIND = 4;

    private static final int MOST_CALENDARS = 5;
    private static final int MOST_EPOCH = 1000000;
    private static final int MOST_FEASTS = 10;
    private static final int LAST_NTH = 5;
    private static final int YEARS_AHEAD = 2;

    private static final int[] DIGEST_YEARS = {0, 1, 99, 400};
    private static final int[] DIGEST_DAYS = {100000, 730000, 1234567};
    private static final int[] DIGEST_FEAST_YEARS = {1, 2, 50};
    private static final int DIGEST_AGE_DAY = 730000;

    private final Moon sky;
    private final ArrayList<Calendar> calendarList;
    private final ArrayList<Feast> feastList;

    /** The DAYS of the FEASTS of one CALENDAR in one YEAR, by number; used again for each question. */
    private final int[] told;

    public AlmanacRoom() {
        sky = new Moon();
        calendarList = new ArrayList<>();
        feastList = new ArrayList<>();
        told = new int[MOST_FEASTS];
    }

    // ---- calendars

    public int calendar(int sort, int epoch) throws IllegalArgumentException, IllegalStateException {
        if (!isWithin(sort, BY_MONTHS, BY_MOON)) {
            throw new IllegalArgumentException("there is no such sort");
        }
        if (!isWithin(epoch, 0, MOST_EPOCH)) {
            throw new IllegalArgumentException("the EPOCH is not 0 to 1000000");
        }
        if (calendarList.size() >= MOST_CALENDARS) {
            throw new IllegalStateException("there are 5 CALENDARS");
        }
        calendarList.add(newCalendar(sort, epoch));
        return calendarList.size() - 1;
    }

    public int setMonth(int calendar, int month, int length)
            throws IndexOutOfBoundsException, IllegalArgumentException {
        LaidCalendar laid = laidNumbered(calendar);
        checkLaidMonth(month);
        if (!isWithin(length, 20, 40)) {
            throw new IllegalArgumentException("the LENGTH is not 20 to 40");
        }
        return laid.changeLength(month, length);
    }

    public int leapMonth(int calendar, int month) throws IndexOutOfBoundsException, IllegalArgumentException {
        LaidCalendar laid = laidNumbered(calendar);
        checkLaidMonth(month);
        int before = laid.leapMonthNumber;
        laid.leapMonthNumber = month;
        return before;
    }

    public int leaps(int calendar, int a, int b, int c) throws IndexOutOfBoundsException, IllegalArgumentException {
        Calendar changed = calendarNumbered(calendar);
        checkLeaps(changed.sort, a, b, c);
        int before = changed.rule.first;
        changed.rule = newRule(changed.sort, a, b, c);
        return before;
    }

    public int moon(int start) throws IllegalArgumentException {
        if (!isWithin(start, 0, Moon.ROUND - 1)) {
            throw new IllegalArgumentException("START is not 0 to 29530587");
        }
        int before = sky.start;
        sky.start = start;
        return before;
    }

    public int calendars() {
        return calendarList.size();
    }

    public boolean isLeap(int calendar, int year) throws IndexOutOfBoundsException, IllegalArgumentException {
        Calendar asked = calendarNumbered(calendar);
        checkYear(year);
        return asked.rule.takes(year);
    }

    public int ofYear(int calendar, int year, int what) throws IndexOutOfBoundsException, IllegalArgumentException {
        Calendar asked = calendarNumbered(calendar);
        checkYear(year);
        if (!isWithin(what, 0, 2)) {
            throw new IllegalArgumentException("what is not 0 to 2");
        }
        return yearPart(asked, year, what);
    }

    public int length(int calendar, int year, int month) throws IndexOutOfBoundsException, IllegalArgumentException {
        Calendar asked = calendarNumbered(calendar);
        checkYear(year);
        checkMonth(asked, year, month);
        return asked.monthStart(year, month + 1) - asked.monthStart(year, month);
    }

    public int day(int calendar, int year, int month, int date)
            throws IndexOutOfBoundsException, IllegalArgumentException {
        Calendar asked = calendarNumbered(calendar);
        checkYear(year);
        checkMonth(asked, year, month);
        int start = asked.monthStart(year, month);
        int dates = asked.monthStart(year, month + 1) - start;
        if (!isWithin(date, 0, dates - 1)) {
            throw new IllegalArgumentException("there is no such DATE in the MONTH");
        }
        return start + date;
    }

    public int date(int calendar, int day, int what) throws IndexOutOfBoundsException, IllegalArgumentException {
        Calendar asked = calendarNumbered(calendar);
        checkDay(day);
        if (!isWithin(what, 0, 3)) {
            throw new IllegalArgumentException("what is not 0 to 3");
        }
        return datePart(asked, day, what);
    }

    // ---- days and moons

    public int weekday(int day) throws IllegalArgumentException {
        checkDay(day);
        return day % WEEK;
    }

    public int age(int day) throws IllegalArgumentException {
        checkDay(day);
        return sky.ageAt(day);
    }

    public int quarter(int day, int q) throws IllegalArgumentException {
        checkDay(day);
        checkQuarter(q);
        return sky.firstFrom(day, q);
    }

    public int quarters(int from, int to, int q) throws IllegalArgumentException {
        checkDay(from);
        checkDay(to);
        if (to < from) {
            throw new IllegalArgumentException("the one DAY is behind the other one");
        }
        checkQuarter(q);
        return sky.countAhead(to, q) - sky.countAhead(from, q);
    }

    public double meanYear(int calendar, int from, int many)
            throws IndexOutOfBoundsException, IllegalArgumentException {
        Calendar asked = calendarNumbered(calendar);
        checkYears(from, many, 100);
        return (double) (asked.yearStart(from + many) - asked.yearStart(from)) / many;
    }

    // ---- feasts

    public int fixed(int calendar, int month, int date)
            throws IndexOutOfBoundsException, IllegalArgumentException, IllegalStateException {
        Calendar of = calendarNumbered(calendar);
        checkFeastMonth(month);
        if (!isWithin(date, 0, 40)) {
            throw new IllegalArgumentException("the DATE is not 0 to 40");
        }
        checkRoomForFeast();
        return addFeast(new DateFeast(of, month, date));
    }

    public int nth(int calendar, int month, int n, int w)
            throws IndexOutOfBoundsException, IllegalArgumentException, IllegalStateException {
        Calendar of = calendarNumbered(calendar);
        checkFeastMonth(month);
        if (!isWithin(n, 1, LAST_NTH)) {
            throw new IllegalArgumentException("n is not 1 to 5");
        }
        if (!isWithin(w, 0, WEEK - 1)) {
            throw new IllegalArgumentException("the WEEKDAY is not 0 to 6");
        }
        checkRoomForFeast();
        return addFeast(new WeekdayFeast(of, month, n, w));
    }

    public int by(int feast, int how, int number)
            throws IndexOutOfBoundsException, IllegalArgumentException, IllegalStateException {
        Calendar of = feastNumbered(feast).calendar;
        if (!isWithin(how, DAYS_BEHIND, QUARTER_BEHIND)) {
            throw new IllegalArgumentException("how is not 2 to 4");
        }
        if (!isWithin(number, 0, mostBehind(how))) {
            throw new IllegalArgumentException("the number is not one for this rule");
        }
        checkRoomForFeast();
        return addFeast(new BehindFeast(of, feast, how, number, sky));
    }

    public int shun(int feast, int w) throws IndexOutOfBoundsException, IllegalArgumentException {
        Feast changed = feastNumbered(feast);
        if (!isWithin(w, NONE, WEEK - 1)) {
            throw new IllegalArgumentException("the WEEKDAY is not -1 to 6");
        }
        int before = changed.shunned;
        changed.shunned = w;
        return before;
    }

    public int feasts() {
        return feastList.size();
    }

    public int feast(int feast, int year) throws IndexOutOfBoundsException, IllegalArgumentException {
        Calendar of = feastNumbered(feast).calendar;
        checkYear(year);
        return toldDay(of, feast, year);
    }

    public int on(int day) throws IllegalArgumentException {
        checkDay(day);
        return feastsOn(day);
    }

    public int next(int from, int days) throws IllegalArgumentException {
        checkSpan(from, days);
        for (int day = from; day < from + days; day++) {
            if (feastsOn(day) != 0) {
                return day;
            }
        }
        return NONE;
    }

    public int meetings(int from, int days) throws IllegalArgumentException {
        checkSpan(from, days);
        int met = 0;
        for (int day = from; day < from + days; day++) {
            if (Integer.bitCount(feastsOn(day)) > 1) {
                met++;
            }
        }
        return met;
    }

    // ---- what would be (nothing is changed)

    public int drift(int one, int other, int year) throws IndexOutOfBoundsException, IllegalArgumentException {
        Calendar first = calendarNumbered(one);
        Calendar second = calendarNumbered(other);
        checkYear(year);
        return datePart(second, first.yearStart(year), 3);
    }

    public int beginsWith(int calendar, int a, int b, int c, int year)
            throws IndexOutOfBoundsException, IllegalArgumentException {
        Calendar asked = calendarNumbered(calendar);
        checkLeaps(asked.sort, a, b, c);
        checkYear(year);
        return asked.yearStartBy(newRule(asked.sort, a, b, c), year);
    }

    public int wander(int feast, int from, int many) throws IndexOutOfBoundsException, IllegalArgumentException {
        Calendar of = feastNumbered(feast).calendar;
        checkYears(from, many, 60);
        // No DAY of a YEAR has so great a number.
        int least = DAYS;
        int greatest = NONE;
        for (int year = from; year < from + many; year++) {
            int day = toldDay(of, feast, year);
            if (of.yearOf(day) == year) {
                int number = day - of.yearStart(year);
                least = Math.min(least, number);
                greatest = Math.max(greatest, number);
            }
        }
        return greatest == NONE ? NONE : greatest - least;
    }

    public long digest() {
        long d = 58093;
        d = d * 31 + calendarList.size();
        d = d * 31 + feastList.size();
        for (int k = 0; k < calendarList.size(); k++) {
            d = digestOfCalendar(d, calendarList.get(k));
        }
        d = d * 31 + sky.ageAt(DIGEST_AGE_DAY);
        for (int k = 0; k < feastList.size(); k++) {
            for (int year : DIGEST_FEAST_YEARS) {
                d = d * 31 + toldDay(feastList.get(k).calendar, k, year);
            }
        }
        return d;
    }

    private static long digestOfCalendar(long start, Calendar calendar) {
        long d = start;
        for (int year : DIGEST_YEARS) {
            d = d * 31 + (calendar.rule.takes(year) ? 1 : 0);
            for (int what = 0; what <= 2; what++) {
                d = d * 31 + yearPart(calendar, year, what);
            }
        }
        for (int day : DIGEST_DAYS) {
            for (int what = 0; what <= 3; what++) {
                d = d * 31 + datePart(calendar, day, what);
            }
        }
        return d;
    }

    // ---- what is asked of a calendar

    private static int yearPart(Calendar calendar, int year, int what) {
        switch (what) {
            case 0:
                return calendar.monthsIn(year);
            case 1:
                return calendar.yearStart(year + 1) - calendar.yearStart(year);
            default:
                return calendar.yearStart(year);
        }
    }

    private static int datePart(Calendar calendar, int day, int what) {
        int year = calendar.yearOf(day);
        if (year == NONE) {
            return NONE;
        }
        switch (what) {
            case 0:
                return year;
            case 1:
                return calendar.monthOf(year, day);
            case 2:
                return day - calendar.monthStart(year, calendar.monthOf(year, day));
            default:
                return day - calendar.yearStart(year);
        }
    }

    // ---- how feasts are told

    private int toldDay(Calendar calendar, int feast, int year) {
        tellYear(calendar, year);
        return feast >= 0 && feast < told.length ? told[feast] : NONE;
    }

    /** A FEAST stands behind one with a smaller number only, so by number each finds its own told. */
    private void tellYear(Calendar calendar, int year) {
        for (int k = 0; k < feastList.size() && k < told.length; k++) {
            Feast feast = feastList.get(k);
            if (feast.calendar == calendar) {
                int from = feast.behind >= 0 && feast.behind < k ? told[feast.behind] : 0;
                int day = feast.ruledDay(year, from);
                told[k] = day % WEEK == feast.shunned ? day + 1 : day;
            }
        }
    }

    private int feastsOn(int day) {
        int set = 0;
        for (int k = 0; k < calendarList.size(); k++) {
            Calendar calendar = calendarList.get(k);
            int year = calendar.yearOf(day);
            for (int ahead = 0; ahead <= YEARS_AHEAD && year - ahead >= 0; ahead++) {
                tellYear(calendar, year - ahead);
                set |= toldOn(calendar, day);
            }
        }
        return set;
    }

    private int toldOn(Calendar calendar, int day) {
        int set = 0;
        for (int k = 0; k < feastList.size() && k < told.length; k++) {
            if (feastList.get(k).calendar == calendar && told[k] == day) {
                set |= 1 << k;
            }
        }
        return set;
    }

    private int addFeast(Feast feast) {
        feastList.add(feast);
        return feastList.size() - 1;
    }

    private static int mostBehind(int how) {
        switch (how) {
            case DAYS_BEHIND:
                return 400;
            case WEEKDAY_BEHIND:
                return WEEK - 1;
            default:
                return 3;
        }
    }

    private static int weekdayFrom(int day, int w) {
        return day + (w + WEEK - day % WEEK) % WEEK;
    }

    // ---- what is made

    private Calendar newCalendar(int sort, int epoch) {
        if (sort == BY_MOON) {
            return new MoonCalendar(epoch, newRule(sort, 19, 7, 1), sky);
        }
        if (sort == BY_MONTHS) {
            return new LaidCalendar(sort, epoch, newRule(sort, 4, 0, 0), 31);
        }
        return new LaidCalendar(sort, epoch, newRule(sort, 30, 11, 14), 30);
    }

    private static LeapRule newRule(int sort, int a, int b, int c) {
        if (sort == BY_MONTHS) {
            return new DividedLeaps(a, b, c);
        }
        return new CycledLeaps(a, b, c);
    }

    // ---- what is refused

    private Calendar calendarNumbered(int number) {
        if (number < 0 || number >= calendarList.size()) {
            throw new IndexOutOfBoundsException("there is no such CALENDAR");
        }
        return calendarList.get(number);
    }

    private LaidCalendar laidNumbered(int number) {
        Calendar calendar = calendarNumbered(number);
        if (calendar instanceof LaidCalendar laid) {
            return laid;
        }
        throw new IllegalArgumentException("the CALENDAR is by the MOON");
    }

    private Feast feastNumbered(int number) {
        if (number < 0 || number >= feastList.size()) {
            throw new IndexOutOfBoundsException("there is no such FEAST");
        }
        return feastList.get(number);
    }

    private void checkRoomForFeast() {
        if (feastList.size() >= MOST_FEASTS) {
            throw new IllegalStateException("there are 10 FEASTS");
        }
    }

    private static void checkLeaps(int sort, int a, int b, int c) {
        if (sort == BY_MONTHS) {
            if (!isWithin(a, 0, 1000)) {
                throw new IllegalArgumentException("A is not 0 to 1000");
            }
            if (!isWithin(b, 0, 1000)) {
                throw new IllegalArgumentException("B is not 0 to 1000");
            }
            if (!isWithin(c, 0, 1000)) {
                throw new IllegalArgumentException("C is not 0 to 1000");
            }
        } else {
            if (!isWithin(a, 1, 100)) {
                throw new IllegalArgumentException("the CYCLE is not 1 to 100");
            }
            if (!isWithin(b, 0, a)) {
                throw new IllegalArgumentException("the LEAPS are not 0 to the CYCLE");
            }
            if (!isWithin(c, 0, a - 1)) {
                throw new IllegalArgumentException("the SHIFT is not 0 to the CYCLE less 1");
            }
        }
    }

    private static void checkYear(int year) {
        if (!isWithin(year, 0, YEARS - 1)) {
            throw new IllegalArgumentException("the YEAR is not 0 to 3999");
        }
    }

    private static void checkYears(int from, int many, int most) {
        checkYear(from);
        if (!isWithin(many, 1, most)) {
            throw new IllegalArgumentException("there are too many YEARS, or none");
        }
        if (from + many > YEARS) {
            throw new IllegalArgumentException("the last YEAR is above 3999");
        }
    }

    private static void checkMonth(Calendar calendar, int year, int month) {
        if (!isWithin(month, 0, calendar.monthsIn(year) - 1)) {
            throw new IllegalArgumentException("there is no such MONTH in the YEAR");
        }
    }

    private static void checkLaidMonth(int month) {
        if (!isWithin(month, 0, MONTHS - 1)) {
            throw new IllegalArgumentException("the MONTH is not 0 to 11");
        }
    }

    private static void checkFeastMonth(int month) {
        if (!isWithin(month, 0, MONTHS)) {
            throw new IllegalArgumentException("the MONTH is not 0 to 12");
        }
    }

    private static void checkDay(int day) {
        if (!isWithin(day, 0, DAYS - 1)) {
            throw new IllegalArgumentException("the DAY is not 0 to 2999999");
        }
    }

    private static void checkSpan(int from, int days) {
        if (!isWithin(days, 1, 60)) {
            throw new IllegalArgumentException("the DAYS are not 1 to 60");
        }
        checkDay(from);
        if (from + days > DAYS) {
            throw new IllegalArgumentException("the last DAY is above 2999999");
        }
    }

    private static void checkQuarter(int q) {
        if (!isWithin(q, 0, 3)) {
            throw new IllegalArgumentException("the QUARTER is not 0 to 3");
        }
    }

    private static boolean isWithin(int number, int least, int greatest) {
        return number >= least && number <= greatest;
    }

    /** The MOON, in millionths of a DAY. */
    private static final class Moon {
        static final int ROUND = 29530588;
        private static final long QUARTER = 7382647;
        private static final long MILLIONTHS = 1000000;

        int start;

        int ageAt(int day) {
            return (int) ((day * MILLIONTHS + ROUND - start) % ROUND);
        }

        /** How many QUARTERS q there are on DAYS ahead of this one. */
        int countAhead(int day, int q) {
            long since = day * MILLIONTHS - start - q * QUARTER;
            return since <= 0 ? 0 : (int) ((since + ROUND - 1) / ROUND);
        }

        /** The DAY of a QUARTER q, so many ROUNDS behind the first one. */
        int dayOf(int rounds, int q) {
            return (int) ((start + q * QUARTER + rounds * (long) ROUND) / MILLIONTHS);
        }

        int firstFrom(int day, int q) {
            return dayOf(countAhead(day, q), q);
        }
    }

    /** Which YEARS are LEAP YEARS; it is not changed, but another one is put in its place. */
    private abstract static class LeapRule {
        /** A, or the CYCLE. */
        final int first;

        LeapRule(int first) {
            this.first = first;
        }

        abstract boolean takes(int year);

        /** How many LEAP YEARS there are ahead of this one. */
        abstract int countAhead(int year);
    }

    private static final class DividedLeaps extends LeapRule {
        private final int b;
        private final int c;

        /** By what a YEAR is divided that both A and B take, and by what one that C takes back. */
        private final int both;
        private final int all;

        DividedLeaps(int a, int b, int c) {
            super(a);
            this.b = b;
            this.c = c;
            both = commonMultiple(a, b);
            all = commonMultiple(both, c);
        }

        boolean takes(int year) {
            if (!divides(first, year)) {
                return false;
            }
            return !divides(b, year) || divides(c, year);
        }

        int countAhead(int year) {
            int count = first == 0 ? 0 : (year + first - 1) / first;
            count -= both == 0 ? 0 : (year + both - 1) / both;
            count += all == 0 ? 0 : (year + all - 1) / all;
            return count;
        }

        private static boolean divides(int divisor, int year) {
            return divisor != 0 && year % divisor == 0;
        }

        /** 0 if one of them is 0: that one takes no YEAR. */
        private static int commonMultiple(int one, int other) {
            int divisor = one;
            int rest = other;
            for (int step = 0; step < 100 && rest != 0; step++) {
                int left = divisor % rest;
                divisor = rest;
                rest = left;
            }
            return divisor == 0 ? 0 : one / divisor * other;
        }
    }

    private static final class CycledLeaps extends LeapRule {
        private final int leapsIn;
        private final int shift;

        CycledLeaps(int cycle, int leapsIn, int shift) {
            super(cycle);
            this.leapsIn = leapsIn;
            this.shift = shift;
        }

        boolean takes(int year) {
            return first != 0 && (year * leapsIn + shift) % first < leapsIn;
        }

        /**
         * A YEAR is a LEAP YEAR when YEAR * LEAPS + SHIFT has come into another CYCLE than in the
         * YEAR ahead of it; so the CYCLES are counted. One more CYCLE keeps all of it from 0 on.
         */
        int countAhead(int year) {
            if (first == 0) {
                return 0;
            }
            int aheadOfAll = first + shift - leapsIn;
            return (year * leapsIn + aheadOfAll) / first - aheadOfAll / first;
        }
    }

    private abstract static class Calendar {
        final int sort;
        final int epoch;
        LeapRule rule;

        Calendar(int sort, int epoch, LeapRule rule) {
            this.sort = sort;
            this.epoch = epoch;
            this.rule = rule;
        }

        abstract int monthsIn(int year);

        /** As it would be by this rule; for YEARS behind the last one too, so that a YEAR has an end. */
        abstract int yearStartBy(LeapRule leapRule, int year);

        /** For the MONTH behind the last one of the YEAR too: there the next YEAR begins. */
        abstract int monthStart(int year, int month);

        final int yearStart(int year) {
            return yearStartBy(rule, year);
        }

        /** Asks yearStartBy() itself: so one method less stands open beneath digest(). */
        final int yearOf(int day) {
            if (day < yearStartBy(rule, 0) || day >= yearStartBy(rule, YEARS)) {
                return NONE;
            }
            int year = 0;
            for (int step = 2048; step > 0; step /= 2) {
                if (yearStartBy(rule, year + step) <= day) {
                    year += step;
                }
            }
            return year;
        }

        final int monthOf(int year, int day) {
            int last = monthsIn(year) - 1;
            int month = 0;
            while (month < last && monthStart(year, month + 1) <= day) {
                month++;
            }
            return month;
        }
    }

    /** A CALENDAR by MONTHS, or by a CYCLE: its MONTHS have LENGTHS. */
    private static final class LaidCalendar extends Calendar {
        int leapMonthNumber;
        private int plainDays;
        private final int[] lengths;

        LaidCalendar(int sort, int epoch, LeapRule rule, int firstLength) {
            super(sort, epoch, rule);
            leapMonthNumber = MONTHS - 1;
            lengths = new int[MONTHS];
            for (int month = 0; month < lengths.length; month++) {
                lengths[month] = firstLength - month % 2;
                plainDays += lengths[month];
            }
        }

        int changeLength(int month, int days) {
            if (month < 0 || month >= lengths.length) {
                return NONE;
            }
            int before = lengths[month];
            lengths[month] = days;
            plainDays += days - before;
            return before;
        }

        int monthsIn(int year) {
            return MONTHS;
        }

        int yearStartBy(LeapRule leapRule, int year) {
            return epoch + year * plainDays + leapRule.countAhead(year);
        }

        int monthStart(int year, int month) {
            int start = yearStartBy(rule, year);
            for (int m = 0; m < month && m < lengths.length; m++) {
                start += lengths[m];
            }
            return leapMonthNumber < month && rule.takes(year) ? start + 1 : start;
        }
    }

    /** A CALENDAR by the MOON: a MONTH begins on the DAY of each NEW MOON. */
    private static final class MoonCalendar extends Calendar {
        private final Moon moonAbove;

        MoonCalendar(int epoch, LeapRule rule, Moon moonAbove) {
            super(BY_MOON, epoch, rule);
            this.moonAbove = moonAbove;
        }

        int monthsIn(int year) {
            return rule.takes(year) ? MONTHS + 1 : MONTHS;
        }

        int yearStartBy(LeapRule leapRule, int year) {
            return newMoonDay(year * MONTHS + leapRule.countAhead(year));
        }

        int monthStart(int year, int month) {
            return newMoonDay(year * MONTHS + rule.countAhead(year) + month);
        }

        /** START may have changed, so the first one is looked for each time. */
        private int newMoonDay(int monthsAhead) {
            return moonAbove.dayOf(moonAbove.countAhead(epoch, 0) + monthsAhead, 0);
        }
    }

    private abstract static class Feast {
        final Calendar calendar;

        /** The number of the FEAST behind which it is; -1 for none. */
        final int behind;
        int shunned;

        Feast(Calendar calendar, int behind) {
            this.calendar = calendar;
            this.behind = behind;
            shunned = NONE;
        }

        /** The DAY by its rule, without what it SHUNS; from is the DAY of the FEAST behind which it is. */
        abstract int ruledDay(int year, int from);
    }

    private static final class DateFeast extends Feast {
        private final int month;
        private final int dateIn;

        DateFeast(Calendar calendar, int month, int dateIn) {
            super(calendar, NONE);
            this.month = month;
            this.dateIn = dateIn;
        }

        int ruledDay(int year, int from) {
            int there = Math.min(month, calendar.monthsIn(year) - 1);
            int last = calendar.monthStart(year, there + 1) - 1;
            return Math.min(calendar.monthStart(year, there) + dateIn, last);
        }
    }

    private static final class WeekdayFeast extends Feast {
        private final int month;
        private final int n;
        private final int w;

        WeekdayFeast(Calendar calendar, int month, int n, int w) {
            super(calendar, NONE);
            this.month = month;
            this.n = n;
            this.w = w;
        }

        int ruledDay(int year, int from) {
            int there = Math.min(month, calendar.monthsIn(year) - 1);
            int last = weekdayFrom(calendar.monthStart(year, there + 1) - WEEK, w);
            int found = weekdayFrom(calendar.monthStart(year, there), w) + (n - 1) * WEEK;
            return n == LAST_NTH ? last : Math.min(found, last);
        }
    }

    private static final class BehindFeast extends Feast {
        private final int how;
        private final int number;
        private final Moon moonAbove;

        BehindFeast(Calendar calendar, int behind, int how, int number, Moon moonAbove) {
            super(calendar, behind);
            this.how = how;
            this.number = number;
            this.moonAbove = moonAbove;
        }

        int ruledDay(int year, int from) {
            switch (how) {
                case DAYS_BEHIND:
                    return from + number;
                case WEEKDAY_BEHIND:
                    return weekdayFrom(from, number);
                default:
                    return moonAbove.firstFrom(from, number);
            }
        }
    }
}

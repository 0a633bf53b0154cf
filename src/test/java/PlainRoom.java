import java.util.ArrayList;
import java.util.Arrays;
import java.util.List;

/**
 * The document once more, as slowly and literally as can be: YEARS are laid out MONTH by MONTH,
 * WEEKDAYS and QUARTERS are looked for DAY by DAY. RandomRunsTest holds the class against it.
 */
final class PlainRoom {
    private static final int DAYS = 3000000;
    private static final long QUARTER = 7382647;

    private static final class Cal {
        int sort;
        int epoch;
        int a;
        int b;
        int c;
        int leapMonth = 11;
        int[] lengths = new int[12];
        int[][] laid;
    }

    private static final class Told {
        int calendar;
        int kind;
        int first;
        int second;
        int third;
        int shuns = -1;
    }

    private final List<Cal> cals = new ArrayList<>();
    private final List<Told> tolds = new ArrayList<>();
    private int start = 0;
    private byte[] quarterDays;

    int calendar(int sort, int epoch) {
        argument(sort < 0 || sort > 2 || epoch < 0 || epoch > 1000000);
        state(cals.size() == 5);
        Cal cal = new Cal();
        cal.sort = sort;
        cal.epoch = epoch;
        int[][] first = {{4, 0, 0}, {30, 11, 14}, {19, 7, 1}};
        cal.a = first[sort][0];
        cal.b = first[sort][1];
        cal.c = first[sort][2];
        for (int m = 0; m < 12; m += 2) {
            cal.lengths[m] = sort == 0 ? 31 : 30;
            cal.lengths[m + 1] = sort == 0 ? 30 : 29;
        }
        cals.add(cal);
        return cals.size() - 1;
    }

    int setMonth(int calendar, int month, int length) {
        Cal cal = cal(calendar);
        argument(cal.sort == 2 || month < 0 || month > 11 || length < 20 || length > 40);
        int before = cal.lengths[month];
        cal.lengths[month] = length;
        cal.laid = null;
        return before;
    }

    int leapMonth(int calendar, int month) {
        Cal cal = cal(calendar);
        argument(cal.sort == 2 || month < 0 || month > 11);
        int before = cal.leapMonth;
        cal.leapMonth = month;
        cal.laid = null;
        return before;
    }

    int leaps(int calendar, int a, int b, int c) {
        Cal cal = cal(calendar);
        checkLeaps(cal, a, b, c);
        int before = cal.a;
        cal.a = a;
        cal.b = b;
        cal.c = c;
        cal.laid = null;
        return before;
    }

    int moon(int from) {
        argument(from < 0 || from > 29530587);
        int before = start;
        start = from;
        quarterDays = null;
        for (Cal cal : cals) {
            cal.laid = null;
        }
        return before;
    }

    int calendars() {
        return cals.size();
    }

    boolean isLeap(int calendar, int year) {
        Cal cal = cal(calendar);
        checkYear(year);
        return leap(cal.sort, cal.a, cal.b, cal.c, year);
    }

    int ofYear(int calendar, int year, int what) {
        Cal cal = cal(calendar);
        checkYear(year);
        argument(what < 0 || what > 2);
        int[][] laid = laid(cal);
        if (what == 0) {
            return laid[year].length;
        }
        return what == 1 ? laid[year + 1][0] - laid[year][0] : laid[year][0];
    }

    int length(int calendar, int year, int month) {
        Cal cal = cal(calendar);
        checkYear(year);
        int[][] laid = laid(cal);
        argument(month < 0 || month >= laid[year].length);
        return (month + 1 < laid[year].length ? laid[year][month + 1] : laid[year + 1][0]) - laid[year][month];
    }

    int day(int calendar, int year, int month, int date) {
        int length = length(calendar, year, month);
        argument(date < 0 || date >= length);
        return laid(cal(calendar))[year][month] + date;
    }

    int date(int calendar, int day, int what) {
        Cal cal = cal(calendar);
        checkDay(day);
        argument(what < 0 || what > 3);
        return dateOf(cal, day, what);
    }

    int weekday(int day) {
        checkDay(day);
        return day % 7;
    }

    int age(int day) {
        checkDay(day);
        return (int) ((day * 1000000L + 29530588 - start) % 29530588);
    }

    int quarter(int day, int q) {
        checkDay(day);
        checkQuarter(q);
        return firstQuarter(day, q);
    }

    int quarters(int from, int to, int q) {
        checkDay(from);
        checkDay(to);
        argument(to < from);
        checkQuarter(q);
        int many = 0;
        for (int day = from; day < to; day++) {
            many += (quarterDays()[day] >> q) & 1;
        }
        return many;
    }

    double meanYear(int calendar, int from, int many) {
        cal(calendar);
        checkYears(from, many, 100);
        double sum = 0;
        for (int year = from; year < from + many; year++) {
            sum += ofYear(calendar, year, 1);
        }
        return sum / many;
    }

    int fixed(int calendar, int month, int date) {
        cal(calendar);
        argument(month < 0 || month > 12 || date < 0 || date > 40);
        return add(calendar, 0, month, date, 0);
    }

    int nth(int calendar, int month, int n, int w) {
        cal(calendar);
        argument(month < 0 || month > 12 || n < 1 || n > 5 || w < 0 || w > 6);
        return add(calendar, 1, month, n, w);
    }

    int by(int feast, int how, int number) {
        Told told = told(feast);
        argument(how < 2 || how > 4);
        argument(number < 0 || number > (how == 2 ? 400 : how == 3 ? 6 : 3));
        return add(told.calendar, how, feast, number, 0);
    }

    int shun(int feast, int w) {
        Told told = told(feast);
        argument(w < -1 || w > 6);
        int before = told.shuns;
        told.shuns = w;
        return before;
    }

    int feasts() {
        return tolds.size();
    }

    int feast(int feast, int year) {
        told(feast);
        checkYear(year);
        return dayOfFeast(feast, year);
    }

    int on(int day) {
        checkDay(day);
        int set = 0;
        for (int k = 0; k < tolds.size(); k++) {
            int year = dateOf(cals.get(tolds.get(k).calendar), day, 0);
            for (int y = Math.max(year - 2, 0); y <= year; y++) {
                if (dayOfFeast(k, y) == day) {
                    set |= 1 << k;
                }
            }
        }
        return set;
    }

    int next(int from, int days) {
        checkSpan(from, days);
        for (int k = 0; k < days; k++) {
            if (on(from + k) != 0) {
                return from + k;
            }
        }
        return -1;
    }

    int meetings(int from, int days) {
        checkSpan(from, days);
        int many = 0;
        for (int k = 0; k < days; k++) {
            int set = on(from + k);
            many += (set & (set - 1)) != 0 ? 1 : 0;
        }
        return many;
    }

    int drift(int one, int other, int year) {
        cal(one);
        cal(other);
        checkYear(year);
        return dateOf(cal(other), laid(cal(one))[year][0], 3);
    }

    int beginsWith(int calendar, int a, int b, int c, int year) {
        Cal cal = cal(calendar);
        checkLeaps(cal, a, b, c);
        checkYear(year);
        return lay(cal, a, b, c)[year][0];
    }

    int wander(int feast, int from, int many) {
        Told told = told(feast);
        checkYears(from, many, 60);
        List<Integer> numbers = new ArrayList<>();
        for (int year = from; year < from + many; year++) {
            int day = dayOfFeast(feast, year);
            Cal cal = cals.get(told.calendar);
            if (dateOf(cal, day, 0) == year) {
                numbers.add(dateOf(cal, day, 3));
            }
        }
        numbers.sort(null);
        return numbers.isEmpty() ? -1 : numbers.get(numbers.size() - 1) - numbers.get(0);
    }

    long digest() {
        List<Long> all = new ArrayList<>();
        all.add((long) calendars());
        all.add((long) feasts());
        for (int k = 0; k < calendars(); k++) {
            for (int year : new int[] {0, 1, 99, 400}) {
                all.add(isLeap(k, year) ? 1L : 0L);
                for (int what = 0; what < 3; what++) {
                    all.add((long) ofYear(k, year, what));
                }
            }
            for (int day : new int[] {100000, 730000, 1234567}) {
                for (int what = 0; what < 4; what++) {
                    all.add((long) date(k, day, what));
                }
            }
        }
        all.add((long) age(730000));
        for (int k = 0; k < feasts(); k++) {
            for (int year : new int[] {1, 2, 50}) {
                all.add((long) feast(k, year));
            }
        }
        long d = 58093;
        for (long v : all) {
            d = d * 31 + v;
        }
        return d;
    }

    private static boolean leap(int sort, int a, int b, int c, int year) {
        if (sort != 0) {
            return (year * b + c) % a < b;
        }
        boolean is = a != 0 && year % a == 0;
        if (is && b != 0 && year % b == 0) {
            is = c != 0 && year % c == 0;
        }
        return is;
    }

    private int[][] laid(Cal cal) {
        if (cal.laid == null) {
            cal.laid = lay(cal, cal.a, cal.b, cal.c);
        }
        return cal.laid;
    }

    private int[][] lay(Cal cal, int a, int b, int c) {
        int[][] all = new int[4001][];
        long moment = start;
        while (moment / 1000000 < cal.epoch) {
            moment += 4 * QUARTER;
        }
        int day = cal.epoch;
        for (int year = 0; year <= 4000; year++) {
            boolean leap = leap(cal.sort, a, b, c, year);
            all[year] = new int[cal.sort == 2 && leap ? 13 : 12];
            for (int m = 0; m < all[year].length; m++) {
                if (cal.sort == 2) {
                    all[year][m] = (int) (moment / 1000000);
                    moment += 4 * QUARTER;
                } else {
                    all[year][m] = day;
                    day += cal.lengths[m] + (leap && m == cal.leapMonth ? 1 : 0);
                }
            }
        }
        return all;
    }

    private int dateOf(Cal cal, int day, int what) {
        int[][] laid = laid(cal);
        if (day < laid[0][0] || day >= laid[4000][0]) {
            return -1;
        }
        int low = 0;
        int high = 4000;
        while (high - low > 1) {
            int mid = (low + high) / 2;
            if (laid[mid][0] <= day) {
                low = mid;
            } else {
                high = mid;
            }
        }
        int found = Arrays.binarySearch(laid[low], day);
        int month = found >= 0 ? found : -found - 2;
        return new int[] {low, month, day - laid[low][month], day - laid[low][0]}[what];
    }

    private byte[] quarterDays() {
        if (quarterDays == null) {
            quarterDays = new byte[DAYS + 10000];
            long moment = start;
            for (int q = 0; moment / 1000000 < quarterDays.length; q++) {
                quarterDays[(int) (moment / 1000000)] |= 1 << q % 4;
                moment += QUARTER;
            }
        }
        return quarterDays;
    }

    private int firstQuarter(int from, int q) {
        int day = from;
        while ((quarterDays()[day] >> q & 1) == 0) {
            day++;
        }
        return day;
    }

    private int add(int calendar, int kind, int first, int second, int third) {
        state(tolds.size() == 10);
        Told told = new Told();
        told.calendar = calendar;
        told.kind = kind;
        told.first = first;
        told.second = second;
        told.third = third;
        tolds.add(told);
        return tolds.size() - 1;
    }

    private int dayOfFeast(int feast, int year) {
        Told told = tolds.get(feast);
        int day = ruled(told, year);
        return day % 7 == told.shuns ? day + 1 : day;
    }

    private int ruled(Told told, int year) {
        if (told.kind < 2) {
            int months = ofYear(told.calendar, year, 0);
            int month = told.first < months ? told.first : months - 1;
            int length = length(told.calendar, year, month);
            int begin = day(told.calendar, year, month, 0);
            if (told.kind == 0) {
                return begin + (told.second < length ? told.second : length - 1);
            }
            int last = -1;
            int seen = 0;
            for (int day = begin; day < begin + length; day++) {
                if (day % 7 == told.third) {
                    last = day;
                    seen++;
                    if (seen == told.second && told.second < 5) {
                        return day;
                    }
                }
            }
            return last;
        }
        int day = dayOfFeast(told.first, year);
        if (told.kind == 2) {
            return day + told.second;
        }
        if (told.kind == 4) {
            return firstQuarter(day, told.second);
        }
        while (day % 7 != told.second) {
            day++;
        }
        return day;
    }

    private Cal cal(int number) {
        if (number < 0 || number >= cals.size()) {
            throw new IndexOutOfBoundsException();
        }
        return cals.get(number);
    }

    private Told told(int number) {
        if (number < 0 || number >= tolds.size()) {
            throw new IndexOutOfBoundsException();
        }
        return tolds.get(number);
    }

    private static void checkLeaps(Cal cal, int a, int b, int c) {
        if (cal.sort == 0) {
            argument(a < 0 || a > 1000 || b < 0 || b > 1000 || c < 0 || c > 1000);
        } else {
            argument(a < 1 || a > 100 || b < 0 || b > a || c < 0 || c > a - 1);
        }
    }

    private static void checkYear(int year) {
        argument(year < 0 || year > 3999);
    }

    private static void checkYears(int from, int many, int most) {
        argument(from < 0 || from > 3999 || many < 1 || many > most || from + many - 1 > 3999);
    }

    private static void checkDay(int day) {
        argument(day < 0 || day > 2999999);
    }

    private static void checkSpan(int from, int days) {
        argument(days < 1 || days > 60 || from < 0 || from > 2999999 || from + days > 3000000);
    }

    private static void checkQuarter(int q) {
        argument(q < 0 || q > 3);
    }

    private static void argument(boolean bad) {
        if (bad) {
            throw new IllegalArgumentException();
        }
    }

    private static void state(boolean bad) {
        if (bad) {
            throw new IllegalStateException();
        }
    }
}

import java.util.ArrayList;
import java.util.List;
import java.util.Set;

/**
 * What each call takes and refuses: of each argument the last value that is taken and the first that is
 * refused, on both sides; which exception is thrown if several apply; and that neither a refused call nor
 * a question changes anything. Each call is asked of a room of its own, which must answer afterwards
 * as one that was never asked.
 */
public final class BoundsTest {
    private static final Check CHECK = new Check();

    private static final Set<String> CHANGES =
        Set.of("calendar", "setMonth", "leapMonth", "leaps", "moon", "fixed", "nth", "by", "shun");

    private static final String ARGUMENT = "throws.IllegalArgumentException";
    private static final String STATE = "throws.IllegalStateException";
    private static final String INDEX = "throws.IndexOutOfBoundsException";

    /** Makes rooms that are all alike. */
    private interface Maker {
        AlmanacRoom make();
    }

    /** One call with one argument left open: the # in the call's text. */
    private interface Asked {
        Object of(AlmanacRoom x, int v);
    }

    public static void main(String[] args) {
        promise2Calendar();
        promise3SetMonth();
        promise4LeapMonth();
        promise5LeapsByMonths();
        promise5LeapsByCycle(1, 30);
        promise5LeapsByCycle(2, 19);
        promise6Moon();
        promise8IsLeap();
        promise9OfYear();
        promise10Length();
        promise11Day();
        promise12Date();
        promise13To15();
        promise16Quarters();
        promise17MeanYear();
        promise18Fixed();
        promise19Nth();
        promise20By();
        promise21Shun();
        promise23Feast();
        promise24On();
        promise25Next();
        promise26Meetings();
        promise27Drift();
        promise28BeginsWithByMonths();
        promise28BeginsWithByCycle();
        promise29Wander();
        withoutArguments();
        CHECK.end("BoundsTest");
    }

    // ---- the rooms

    private static AlmanacRoom empty() {
        return new AlmanacRoom();
    }

    /** Three CALENDARS, of the sorts 0, 1 and 2, and four FEASTS, in the YEAR 0 on 10, 15, 0 and 0. */
    private static AlmanacRoom some() {
        AlmanacRoom x = new AlmanacRoom();
        x.calendar(0, 0);
        x.calendar(1, 0);
        x.calendar(2, 0);
        x.fixed(0, 0, 10);
        x.by(0, 2, 5);
        x.fixed(2, 0, 0);
        x.nth(1, 0, 1, 0);
        x.shun(3, 2);
        return x;
    }

    /** Four CALENDARS and nine FEASTS: there is room for one more. */
    private static AlmanacRoom nearlyFull() {
        AlmanacRoom x = some();
        x.calendar(0, 1000);
        x.leaps(3, 4, 100, 400);
        x.setMonth(3, 1, 28);
        x.leapMonth(3, 1);
        x.moon(12345678);
        for (int k = 4; k < 9; k++) {
            x.by(k - 2, 2 + k % 3, k % 4);
        }
        x.shun(8, 6);
        return x;
    }

    /** Five CALENDARS and ten FEASTS. */
    private static AlmanacRoom full() {
        AlmanacRoom x = nearlyFull();
        x.calendar(2, 900);
        x.nth(4, 12, 5, 6);
        return x;
    }

    // ---- promises 2 to 6: what changes the calendars

    private static void promise2Calendar() {
        bounds("calendar(#, 7)", 0, 3, 2, 3, (x, v) -> x.calendar(v, 7));
        for (int s = 0; s < 3; s++) {
            int sort = s;
            bounds("calendar(" + sort + ", #)", 0, 3, 1000000, 3, (x, v) -> x.calendar(sort, v));
            taken(BoundsTest::nearlyFull, "a fifth: calendar(" + sort + ", #)", 0, 4, (x, v) -> x.calendar(sort, v));
            refused(BoundsTest::full, "a sixth: calendar(" + sort + ", #)", 0, STATE, (x, v) -> x.calendar(sort, v));
        }
        for (int v : outside(0, 2)) {
            refused(BoundsTest::full, "a sixth: calendar(#, 0)", v, ARGUMENT, (x, sort) -> x.calendar(sort, 0));
        }
        for (int v : outside(0, 1000000)) {
            refused(BoundsTest::full, "a sixth: calendar(0, #)", v, ARGUMENT, (x, epoch) -> x.calendar(0, epoch));
        }
    }

    private static void promise3SetMonth() {
        noCalendar("setMonth(#, 0, 30)", (x, v) -> x.setMonth(v, 0, 30));
        noCalendar("setMonth(#, 12, 30)", (x, v) -> x.setMonth(v, 12, 30));
        noCalendar("setMonth(#, 0, 41)", (x, v) -> x.setMonth(v, 0, 41));
        noCalendar("setMonth(#, -1, 19)", (x, v) -> x.setMonth(v, -1, 19));
        taken(BoundsTest::full, "setMonth(#, 0, 30)", 3, 31, (x, v) -> x.setMonth(v, 0, 30));
        bounds("setMonth(0, #, 30)", 0, 31, 11, 30, (x, v) -> x.setMonth(0, v, 30));
        bounds("setMonth(1, #, 30)", 0, 30, 11, 29, (x, v) -> x.setMonth(1, v, 30));
        bounds("setMonth(0, 0, #)", 20, 31, 40, 31, (x, v) -> x.setMonth(0, 0, v));
        bounds("setMonth(1, 11, #)", 20, 29, 40, 29, (x, v) -> x.setMonth(1, 11, v));
        for (int month = 0; month < 12; month++) {
            refused(BoundsTest::some, "by the MOON: setMonth(2, #, 30)", month, ARGUMENT,
                (x, v) -> x.setMonth(2, v, 30));
        }
        refused(BoundsTest::full, "by the MOON: setMonth(#, 0, 30)", 4, ARGUMENT, (x, v) -> x.setMonth(v, 0, 30));
    }

    private static void promise4LeapMonth() {
        noCalendar("leapMonth(#, 0)", (x, v) -> x.leapMonth(v, 0));
        noCalendar("leapMonth(#, -1)", (x, v) -> x.leapMonth(v, -1));
        noCalendar("leapMonth(#, 12)", (x, v) -> x.leapMonth(v, 12));
        taken(BoundsTest::full, "leapMonth(#, 0)", 3, 1, (x, v) -> x.leapMonth(v, 0));
        bounds("leapMonth(0, #)", 0, 11, 11, 11, (x, v) -> x.leapMonth(0, v));
        bounds("leapMonth(1, #)", 0, 11, 11, 11, (x, v) -> x.leapMonth(1, v));
        for (int month = 0; month < 12; month++) {
            refused(BoundsTest::some, "by the MOON: leapMonth(2, #)", month, ARGUMENT, (x, v) -> x.leapMonth(2, v));
        }
        refused(BoundsTest::full, "by the MOON: leapMonth(#, 0)", 4, ARGUMENT, (x, v) -> x.leapMonth(v, 0));
    }

    private static void promise5LeapsByMonths() {
        noCalendar("leaps(#, 4, 2, 1)", (x, v) -> x.leaps(v, 4, 2, 1));
        noCalendar("leaps(#, -1, 0, 0)", (x, v) -> x.leaps(v, -1, 0, 0));
        noCalendar("leaps(#, 4, 1001, 0)", (x, v) -> x.leaps(v, 4, 1001, 0));
        noCalendar("leaps(#, 4, 2, -1)", (x, v) -> x.leaps(v, 4, 2, -1));
        bounds("leaps(0, #, 0, 0)", 0, 4, 1000, 4, (x, v) -> x.leaps(0, v, 0, 0));
        bounds("leaps(0, 4, #, 0)", 0, 4, 1000, 4, (x, v) -> x.leaps(0, 4, v, 0));
        bounds("leaps(0, 4, 0, #)", 0, 4, 1000, 4, (x, v) -> x.leaps(0, 4, 0, v));
        bounds("leaps(0, #, 1000, 1000)", 0, 4, 1000, 4, (x, v) -> x.leaps(0, v, 1000, 1000));
        bounds("leaps(0, 1, #, 1000)", 0, 4, 1000, 4, (x, v) -> x.leaps(0, 1, v, 1000));
        bounds("leaps(0, 1, 1000, #)", 0, 4, 1000, 4, (x, v) -> x.leaps(0, 1, 1000, v));
        bounds("leaps(0, 0, 0, #)", 0, 4, 1000, 4, (x, v) -> x.leaps(0, 0, 0, v));
    }

    private static void promise5LeapsByCycle(int k, int before) {
        String leaps = "leaps(" + k;
        bounds(leaps + ", #, 0, 0)", 1, before, 100, before, (x, v) -> x.leaps(k, v, 0, 0));
        bounds(leaps + ", #, 5, 0)", 5, before, 100, before, (x, v) -> x.leaps(k, v, 5, 0));
        bounds(leaps + ", #, 0, 4)", 5, before, 100, before, (x, v) -> x.leaps(k, v, 0, 4));
        bounds(leaps + ", 5, #, 0)", 0, before, 5, before, (x, v) -> x.leaps(k, 5, v, 0));
        bounds(leaps + ", 5, 2, #)", 0, before, 4, before, (x, v) -> x.leaps(k, 5, 2, v));
        bounds(leaps + ", 1, #, 0)", 0, before, 1, before, (x, v) -> x.leaps(k, 1, v, 0));
        bounds(leaps + ", 1, 1, #)", 0, before, 0, before, (x, v) -> x.leaps(k, 1, 1, v));
        bounds(leaps + ", 100, #, 99)", 0, before, 100, before, (x, v) -> x.leaps(k, 100, v, 99));
        bounds(leaps + ", 100, 100, #)", 0, before, 99, before, (x, v) -> x.leaps(k, 100, 100, v));
    }

    private static void promise6Moon() {
        bounds("moon(#)", 0, 0, 29530587, 0, (x, v) -> x.moon(v));
        for (int v : outside(0, 29530587)) {
            refused(BoundsTest::full, "moon(#)", v, ARGUMENT, (x, start) -> x.moon(start));
        }
    }

    // ---- promises 8 to 12: questions of a calendar

    private static void promise8IsLeap() {
        noCalendar("isLeap(#, 0)", (x, v) -> x.isLeap(v, 0));
        noCalendar("isLeap(#, -1)", (x, v) -> x.isLeap(v, -1));
        noCalendar("isLeap(#, 4000)", (x, v) -> x.isLeap(v, 4000));
        bounds("isLeap(0, #)", 0, true, 3999, false, (x, v) -> x.isLeap(0, v));
        bounds("isLeap(1, #)", 0, false, 3999, false, (x, v) -> x.isLeap(1, v));
        bounds("isLeap(2, #)", 0, true, 3999, false, (x, v) -> x.isLeap(2, v));
    }

    private static void promise9OfYear() {
        noCalendar("ofYear(#, 0, 0)", (x, v) -> x.ofYear(v, 0, 0));
        noCalendar("ofYear(#, -1, 0)", (x, v) -> x.ofYear(v, -1, 0));
        noCalendar("ofYear(#, 4000, 0)", (x, v) -> x.ofYear(v, 4000, 0));
        noCalendar("ofYear(#, 0, 3)", (x, v) -> x.ofYear(v, 0, 3));
        int[][] first = {{12, 367, 0}, {12, 354, 0}, {13, 383, 0}};
        int[][] last = {{12, 366, 1464634}, {12, 354, 1417112}, {12, 355, 1460641}};
        for (int calendar = 0; calendar < 3; calendar++) {
            int k = calendar;
            for (int part = 0; part < 3; part++) {
                int what = part;
                bounds("ofYear(" + k + ", #, " + what + ")", 0, first[k][what], 3999, last[k][what],
                    (x, v) -> x.ofYear(k, v, what));
            }
            bounds("ofYear(" + k + ", 3999, #)", 0, 12, 2, last[k][2], (x, v) -> x.ofYear(k, 3999, v));
        }
    }

    private static void promise10Length() {
        noCalendar("length(#, 0, 0)", (x, v) -> x.length(v, 0, 0));
        noCalendar("length(#, -1, 0)", (x, v) -> x.length(v, -1, 0));
        noCalendar("length(#, 0, 13)", (x, v) -> x.length(v, 0, 13));
        bounds("length(0, #, 11)", 0, 31, 3999, 30, (x, v) -> x.length(0, v, 11));
        bounds("length(1, #, 11)", 0, 29, 3999, 29, (x, v) -> x.length(1, v, 11));
        bounds("length(2, #, 11)", 0, 30, 3999, 30, (x, v) -> x.length(2, v, 11));
        bounds("length(0, 0, #)", 0, 31, 11, 31, (x, v) -> x.length(0, 0, v));
        bounds("length(1, 3999, #)", 0, 30, 11, 29, (x, v) -> x.length(1, 3999, v));
        bounds("13 MONTHS: length(2, 0, #)", 0, 29, 12, 29, (x, v) -> x.length(2, 0, v));
        bounds("12 MONTHS: length(2, 1, #)", 0, 30, 11, 30, (x, v) -> x.length(2, 1, v));
    }

    private static void promise11Day() {
        noCalendar("day(#, 0, 0, 0)", (x, v) -> x.day(v, 0, 0, 0));
        noCalendar("day(#, 4000, 0, 0)", (x, v) -> x.day(v, 4000, 0, 0));
        noCalendar("day(#, 0, -1, 0)", (x, v) -> x.day(v, 0, -1, 0));
        noCalendar("day(#, 0, 0, 41)", (x, v) -> x.day(v, 0, 0, 41));
        bounds("day(0, #, 0, 0)", 0, 0, 3999, 1464634, (x, v) -> x.day(0, v, 0, 0));
        bounds("day(1, #, 0, 0)", 0, 0, 3999, 1417112, (x, v) -> x.day(1, v, 0, 0));
        bounds("day(2, #, 0, 0)", 0, 0, 3999, 1460641, (x, v) -> x.day(2, v, 0, 0));
        bounds("day(0, 0, #, 0)", 0, 0, 11, 336, (x, v) -> x.day(0, 0, v, 0));
        bounds("day(1, 1, #, 0)", 0, 354, 11, 679, (x, v) -> x.day(1, 1, v, 0));
        bounds("13 MONTHS: day(2, 0, #, 0)", 0, 0, 12, 354, (x, v) -> x.day(2, 0, v, 0));
        bounds("12 MONTHS: day(2, 1, #, 0)", 0, 383, 11, 708, (x, v) -> x.day(2, 1, v, 0));
        bounds("31 DATES: day(0, 0, 0, #)", 0, 0, 30, 30, (x, v) -> x.day(0, 0, 0, v));
        bounds("a LEAP MONTH: day(0, 0, 11, #)", 0, 336, 30, 366, (x, v) -> x.day(0, 0, 11, v));
        bounds("of no LEAP YEAR: day(0, 1, 11, #)", 0, 703, 29, 732, (x, v) -> x.day(0, 1, 11, v));
        bounds("a LEAP MONTH: day(1, 2, 11, #)", 0, 1033, 29, 1062, (x, v) -> x.day(1, 2, 11, v));
        bounds("of no LEAP YEAR: day(1, 0, 11, #)", 0, 325, 28, 353, (x, v) -> x.day(1, 0, 11, v));
        bounds("29 DATES: day(2, 0, 0, #)", 0, 0, 28, 28, (x, v) -> x.day(2, 0, 0, v));
        bounds("30 DATES: day(2, 0, 1, #)", 0, 29, 29, 58, (x, v) -> x.day(2, 0, 1, v));
        bounds("the 13th MONTH: day(2, 0, 12, #)", 0, 354, 28, 382, (x, v) -> x.day(2, 0, 12, v));
    }

    private static void promise12Date() {
        noCalendar("date(#, 0, 0)", (x, v) -> x.date(v, 0, 0));
        noCalendar("date(#, -1, 0)", (x, v) -> x.date(v, -1, 0));
        noCalendar("date(#, 3000000, 0)", (x, v) -> x.date(v, 3000000, 0));
        noCalendar("date(#, 0, 4)", (x, v) -> x.date(v, 0, 4));
        for (int calendar = 0; calendar < 3; calendar++) {
            int k = calendar;
            for (int part = 0; part < 4; part++) {
                int what = part;
                bounds("date(" + k + ", #, " + what + ")", 0, 0, 2999999, -1, (x, v) -> x.date(k, v, what));
            }
        }
        bounds("date(0, 732, #)", 0, 1, 3, 365, (x, v) -> x.date(0, 732, v));
        bounds("ahead of the YEAR 0: date(3, 999, #)", 0, -1, 3, -1, BoundsTest::nearlyFull,
            (x, v) -> x.date(3, 999, v));
        bounds("behind the YEAR 3999: date(1, 1417466, #)", 0, -1, 3, -1, (x, v) -> x.date(1, 1417466, v));
    }

    // ---- promises 13 to 17: days and moons

    private static void promise13To15() {
        bounds("weekday(#)", 0, 0, 2999999, 2, (x, v) -> x.weekday(v));
        bounds("age(#)", 0, 0, 2999999, 16095668, (x, v) -> x.age(v));
        int[] first = {0, 7, 14, 22};
        int[] last = {3000012, 3000019, 3000027, 3000005};
        for (int quarter = 0; quarter < 4; quarter++) {
            int q = quarter;
            bounds("quarter(#, " + q + ")", 0, first[q], 2999999, last[q], (x, v) -> x.quarter(v, q));
        }
        bounds("quarter(0, #)", 0, 0, 3, 22, (x, v) -> x.quarter(0, v));
    }

    private static void promise16Quarters() {
        bounds("quarters(#, 2999999, 0)", 0, 101590, 2999999, 0, (x, v) -> x.quarters(v, 2999999, 0));
        bounds("quarters(0, #, 0)", 0, 0, 2999999, 101590, (x, v) -> x.quarters(0, v, 0));
        bounds("quarters(#, 100, 0)", 0, 4, 100, 0, (x, v) -> x.quarters(v, 100, 0));
        bounds("quarters(100, #, 0)", 100, 0, 2999999, 101586, (x, v) -> x.quarters(100, v, 0));
        bounds("quarters(0, 0, #)", 0, 0, 3, 0, (x, v) -> x.quarters(0, 0, v));
        bounds("quarters(0, 30, #)", 0, 2, 3, 1, (x, v) -> x.quarters(0, 30, v));
        bounds("quarters(2999999, #, 3)", 2999999, 0, 2999999, 0, (x, v) -> x.quarters(2999999, v, 3));
    }

    private static void promise17MeanYear() {
        noCalendar("meanYear(#, 0, 1)", (x, v) -> x.meanYear(v, 0, 1));
        noCalendar("meanYear(#, -1, 1)", (x, v) -> x.meanYear(v, -1, 1));
        noCalendar("meanYear(#, 0, 101)", (x, v) -> x.meanYear(v, 0, 101));
        noCalendar("meanYear(#, 3999, 2)", (x, v) -> x.meanYear(v, 3999, 2));
        bounds("meanYear(0, #, 1)", 0, 367.0, 3999, 366.0, (x, v) -> x.meanYear(0, v, 1));
        bounds("meanYear(0, #, 2)", 0, 366.5, 3998, 366.0, (x, v) -> x.meanYear(0, v, 2));
        bounds("meanYear(0, #, 100)", 0, 366.25, 3900, 366.25, (x, v) -> x.meanYear(0, v, 100));
        bounds("meanYear(0, 0, #)", 1, 367.0, 100, 366.25, (x, v) -> x.meanYear(0, 0, v));
        bounds("meanYear(0, 3900, #)", 1, 367.0, 100, 366.25, (x, v) -> x.meanYear(0, 3900, v));
        bounds("meanYear(0, 3901, #)", 1, 366.0, 99, 36258.0 / 99, (x, v) -> x.meanYear(0, 3901, v));
        bounds("meanYear(0, 3999, #)", 1, 366.0, 1, 366.0, (x, v) -> x.meanYear(0, 3999, v));
        bounds("meanYear(1, #, 100)", 0, 354.36, 3900, 354.36, (x, v) -> x.meanYear(1, v, 100));
        bounds("meanYear(2, #, 100)", 0, 365.29, 3900, 365.3, (x, v) -> x.meanYear(2, v, 100));
    }

    // ---- promises 18 to 26: the feasts

    private static void promise18Fixed() {
        noCalendar("fixed(#, 0, 0)", (x, v) -> x.fixed(v, 0, 0));
        noCalendar("fixed(#, -1, 0)", (x, v) -> x.fixed(v, -1, 0));
        noCalendar("fixed(#, 13, 41)", (x, v) -> x.fixed(v, 13, 41));
        for (int calendar = 0; calendar < 3; calendar++) {
            int k = calendar;
            bounds("fixed(" + k + ", #, 0)", 0, 4, 12, 4, (x, v) -> x.fixed(k, v, 0));
            bounds("fixed(" + k + ", 0, #)", 0, 4, 40, 4, (x, v) -> x.fixed(k, 0, v));
        }
        taken(BoundsTest::nearlyFull, "a tenth: fixed(#, 0, 0)", 0, 9, (x, v) -> x.fixed(v, 0, 0));
        refused(BoundsTest::full, "an eleventh: fixed(#, 0, 0)", 0, STATE, (x, v) -> x.fixed(v, 0, 0));
        refused(BoundsTest::full, "an eleventh: fixed(#, 12, 40)", 4, STATE, (x, v) -> x.fixed(v, 12, 40));
        for (int v : outside(0, 12)) {
            refused(BoundsTest::full, "an eleventh: fixed(0, #, 0)", v, ARGUMENT, (x, month) -> x.fixed(0, month, 0));
        }
        for (int v : outside(0, 40)) {
            refused(BoundsTest::full, "an eleventh: fixed(0, 0, #)", v, ARGUMENT, (x, date) -> x.fixed(0, 0, date));
        }
    }

    private static void promise19Nth() {
        noCalendar("nth(#, 0, 1, 0)", (x, v) -> x.nth(v, 0, 1, 0));
        noCalendar("nth(#, 13, 1, 0)", (x, v) -> x.nth(v, 13, 1, 0));
        noCalendar("nth(#, 0, 0, 0)", (x, v) -> x.nth(v, 0, 0, 0));
        noCalendar("nth(#, 0, 1, 7)", (x, v) -> x.nth(v, 0, 1, 7));
        for (int calendar = 0; calendar < 3; calendar++) {
            int k = calendar;
            bounds("nth(" + k + ", #, 1, 0)", 0, 4, 12, 4, (x, v) -> x.nth(k, v, 1, 0));
            bounds("nth(" + k + ", 0, #, 0)", 1, 4, 5, 4, (x, v) -> x.nth(k, 0, v, 0));
            bounds("nth(" + k + ", 0, 1, #)", 0, 4, 6, 4, (x, v) -> x.nth(k, 0, 1, v));
        }
        taken(BoundsTest::nearlyFull, "a tenth: nth(#, 0, 1, 0)", 0, 9, (x, v) -> x.nth(v, 0, 1, 0));
        refused(BoundsTest::full, "an eleventh: nth(#, 0, 1, 0)", 0, STATE, (x, v) -> x.nth(v, 0, 1, 0));
        refused(BoundsTest::full, "an eleventh: nth(#, 12, 5, 6)", 4, STATE, (x, v) -> x.nth(v, 12, 5, 6));
        for (int v : outside(0, 12)) {
            refused(BoundsTest::full, "an eleventh: nth(0, #, 1, 0)", v, ARGUMENT, (x, month) -> x.nth(0, month, 1, 0));
        }
        for (int v : outside(1, 5)) {
            refused(BoundsTest::full, "an eleventh: nth(0, 0, #, 0)", v, ARGUMENT, (x, n) -> x.nth(0, 0, n, 0));
        }
        for (int v : outside(0, 6)) {
            refused(BoundsTest::full, "an eleventh: nth(0, 0, 1, #)", v, ARGUMENT, (x, w) -> x.nth(0, 0, 1, w));
        }
    }

    private static void promise20By() {
        noFeast("by(#, 2, 0)", (x, v) -> x.by(v, 2, 0));
        noFeast("by(#, 1, 0)", (x, v) -> x.by(v, 1, 0));
        noFeast("by(#, 5, 0)", (x, v) -> x.by(v, 5, 0));
        noFeast("by(#, 4, 4)", (x, v) -> x.by(v, 4, 4));
        bounds("by(0, #, 0)", 2, 4, 4, 4, (x, v) -> x.by(0, v, 0));
        int[] most = {400, 6, 3};
        for (int rule = 2; rule <= 4; rule++) {
            int how = rule;
            for (int feast = 0; feast < 4; feast++) {
                int f = feast;
                bounds("by(" + f + ", " + how + ", #)", 0, 4, most[how - 2], 4, (x, v) -> x.by(f, how, v));
            }
            taken(BoundsTest::nearlyFull, "a tenth: by(#, " + how + ", 0)", 8, 9, (x, v) -> x.by(v, how, 0));
            refused(BoundsTest::full, "an eleventh: by(#, " + how + ", 0)", 9, STATE, (x, v) -> x.by(v, how, 0));
            for (int v : outside(0, most[how - 2])) {
                refused(BoundsTest::full, "an eleventh: by(0, " + how + ", #)", v, ARGUMENT, (x, n) -> x.by(0, how, n));
            }
        }
        for (int v : outside(2, 4)) {
            refused(BoundsTest::full, "an eleventh: by(0, #, 0)", v, ARGUMENT, (x, how) -> x.by(0, how, 0));
        }
    }

    private static void promise21Shun() {
        noFeast("shun(#, 0)", (x, v) -> x.shun(v, 0));
        noFeast("shun(#, -1)", (x, v) -> x.shun(v, -1));
        noFeast("shun(#, -2)", (x, v) -> x.shun(v, -2));
        noFeast("shun(#, 7)", (x, v) -> x.shun(v, 7));
        bounds("shun(0, #)", -1, -1, 6, -1, (x, v) -> x.shun(0, v));
        bounds("shun(3, #)", -1, 2, 6, 2, (x, v) -> x.shun(3, v));
        bounds("the tenth: shun(9, #)", -1, -1, 6, -1, BoundsTest::full, (x, v) -> x.shun(9, v));
    }

    private static void promise23Feast() {
        noFeast("feast(#, 0)", (x, v) -> x.feast(v, 0));
        noFeast("feast(#, -1)", (x, v) -> x.feast(v, -1));
        noFeast("feast(#, 4000)", (x, v) -> x.feast(v, 4000));
        bounds("feast(0, #)", 0, 10, 3999, 1464644, (x, v) -> x.feast(0, v));
        bounds("feast(1, #)", 0, 15, 3999, 1464649, (x, v) -> x.feast(1, v));
        bounds("feast(2, #)", 0, 0, 3999, 1460641, (x, v) -> x.feast(2, v));
        bounds("feast(3, #)", 0, 0, 3999, 1417115, (x, v) -> x.feast(3, v));
    }

    private static void promise24On() {
        bounds("on(#)", 0, 12, 2999999, 0, (x, v) -> x.on(v));
        bounds("on(#) without FEASTS", 0, 0, 2999999, 0, BoundsTest::empty, (x, v) -> x.on(v));
    }

    private static void promise25Next() {
        bounds("next(#, 1)", 0, 0, 2999999, -1, (x, v) -> x.next(v, 1));
        bounds("next(#, 2)", 0, 0, 2999998, -1, (x, v) -> x.next(v, 2));
        bounds("next(#, 60)", 0, 0, 2999940, -1, (x, v) -> x.next(v, 60));
        bounds("next(1, #)", 1, -1, 60, 10, (x, v) -> x.next(1, v));
        bounds("next(2999940, #)", 1, -1, 60, -1, (x, v) -> x.next(2999940, v));
        bounds("next(2999941, #)", 1, -1, 59, -1, (x, v) -> x.next(2999941, v));
        bounds("next(2999999, #)", 1, -1, 1, -1, (x, v) -> x.next(2999999, v));
    }

    private static void promise26Meetings() {
        bounds("meetings(#, 1)", 0, 1, 2999999, 0, (x, v) -> x.meetings(v, 1));
        bounds("meetings(#, 2)", 0, 1, 2999998, 0, (x, v) -> x.meetings(v, 2));
        bounds("meetings(#, 60)", 0, 1, 2999940, 0, (x, v) -> x.meetings(v, 60));
        bounds("meetings(0, #)", 1, 1, 60, 1, (x, v) -> x.meetings(0, v));
        bounds("meetings(2999940, #)", 1, 0, 60, 0, (x, v) -> x.meetings(2999940, v));
        bounds("meetings(2999941, #)", 1, 0, 59, 0, (x, v) -> x.meetings(2999941, v));
        bounds("meetings(2999999, #)", 1, 0, 1, 0, (x, v) -> x.meetings(2999999, v));
    }

    // ---- promises 27 to 30: what would be

    private static void promise27Drift() {
        noCalendar("drift(#, 0, 0)", (x, v) -> x.drift(v, 0, 0));
        noCalendar("drift(0, #, 0)", (x, v) -> x.drift(0, v, 0));
        noCalendar("drift(#, #, 0)", (x, v) -> x.drift(v, v, 0));
        noCalendar("drift(#, 0, -1)", (x, v) -> x.drift(v, 0, -1));
        noCalendar("drift(0, #, 4000)", (x, v) -> x.drift(0, v, 4000));
        bounds("drift(0, 0, #)", 0, 0, 3999, 0, (x, v) -> x.drift(0, 0, v));
        bounds("drift(0, 1, #)", 0, 0, 3999, -1, (x, v) -> x.drift(0, 1, v));
        bounds("drift(1, 0, #)", 0, 0, 3999, 90, (x, v) -> x.drift(1, 0, v));
        bounds("drift(2, 0, #)", 0, 0, 3999, 36, (x, v) -> x.drift(2, 0, v));
        bounds("drift(1, 2, #)", 0, 0, 3999, 323, (x, v) -> x.drift(1, 2, v));
        taken(BoundsTest::full, "drift(#, 4, 0)", 0, -1, (x, v) -> x.drift(v, 4, 0));
        taken(BoundsTest::full, "drift(4, #, 0)", 4, 0, (x, v) -> x.drift(4, v, 0));
    }

    private static void promise28BeginsWithByMonths() {
        noCalendar("beginsWith(#, 4, 2, 1, 0)", (x, v) -> x.beginsWith(v, 4, 2, 1, 0));
        noCalendar("beginsWith(#, -1, 0, 0, 0)", (x, v) -> x.beginsWith(v, -1, 0, 0, 0));
        noCalendar("beginsWith(#, 4, 1001, 0, 0)", (x, v) -> x.beginsWith(v, 4, 1001, 0, 0));
        noCalendar("beginsWith(#, 4, 2, -1, 0)", (x, v) -> x.beginsWith(v, 4, 2, -1, 0));
        noCalendar("beginsWith(#, 4, 2, 1, 4000)", (x, v) -> x.beginsWith(v, 4, 2, 1, 4000));
        bounds("beginsWith(0, #, 0, 0, 10)", 0, 3660, 1000, 3661, (x, v) -> x.beginsWith(0, v, 0, 0, 10));
        bounds("beginsWith(0, 4, #, 0, 10)", 0, 3663, 1000, 3662, (x, v) -> x.beginsWith(0, 4, v, 0, 10));
        bounds("beginsWith(0, 4, 4, #, 10)", 0, 3660, 1000, 3661, (x, v) -> x.beginsWith(0, 4, 4, v, 10));
        bounds("beginsWith(0, #, 1000, 1000, 3999)", 0, 1463634, 1000, 1463638,
            (x, v) -> x.beginsWith(0, v, 1000, 1000, 3999));
        bounds("beginsWith(0, 1, 2, 4, #)", 0, 0, 3999, 1466633, (x, v) -> x.beginsWith(0, 1, 2, 4, v));
    }

    private static void promise28BeginsWithByCycle() {
        int[] without = {0, 3540, 3543};
        int[] all = {0, 3550, 3838};
        int[] last = {0, 1417246, 1464362};
        for (int calendar = 1; calendar <= 2; calendar++) {
            int k = calendar;
            int none = without[k];
            String begins = "beginsWith(" + k;
            bounds(begins + ", #, 0, 0, 10)", 1, none, 100, none, (x, v) -> x.beginsWith(k, v, 0, 0, 10));
            bounds(begins + ", 5, #, 0, 10)", 0, none, 5, all[k], (x, v) -> x.beginsWith(k, 5, v, 0, 10));
            bounds(begins + ", 5, 5, #, 10)", 0, all[k], 4, all[k], (x, v) -> x.beginsWith(k, 5, 5, v, 10));
            bounds(begins + ", 1, #, 0, 10)", 0, none, 1, all[k], (x, v) -> x.beginsWith(k, 1, v, 0, 10));
            bounds(begins + ", 1, 1, #, 10)", 0, all[k], 0, all[k], (x, v) -> x.beginsWith(k, 1, 1, v, 10));
            bounds(begins + ", 100, #, 99, 10)", 0, none, 100, all[k], (x, v) -> x.beginsWith(k, 100, v, 99, 10));
            bounds(begins + ", 100, 0, #, 10)", 0, none, 99, none, (x, v) -> x.beginsWith(k, 100, 0, v, 10));
            bounds(begins + ", 5, 2, 4, #)", 0, 0, 3999, last[k], (x, v) -> x.beginsWith(k, 5, 2, 4, v));
        }
    }

    private static void promise29Wander() {
        noFeast("wander(#, 0, 1)", (x, v) -> x.wander(v, 0, 1));
        noFeast("wander(#, -1, 1)", (x, v) -> x.wander(v, -1, 1));
        noFeast("wander(#, 0, 61)", (x, v) -> x.wander(v, 0, 61));
        noFeast("wander(#, 3999, 2)", (x, v) -> x.wander(v, 3999, 2));
        bounds("wander(0, #, 1)", 0, 0, 3999, 0, (x, v) -> x.wander(0, v, 1));
        bounds("wander(3, #, 2)", 0, 3, 3998, 3, (x, v) -> x.wander(3, v, 2));
        bounds("wander(3, #, 60)", 0, 6, 3940, 6, (x, v) -> x.wander(3, v, 60));
        bounds("wander(3, 0, #)", 1, 0, 60, 6, (x, v) -> x.wander(3, 0, v));
        bounds("wander(3, 3940, #)", 1, 0, 60, 6, (x, v) -> x.wander(3, 3940, v));
        bounds("wander(3, 3941, #)", 1, 0, 59, 6, (x, v) -> x.wander(3, 3941, v));
        bounds("wander(3, 3999, #)", 1, 0, 1, 0, (x, v) -> x.wander(3, 3999, v));
    }

    /** Promises 7, 22 and 30. */
    private static void withoutArguments() {
        taken(BoundsTest::empty, "calendars()", 0, 0, (x, v) -> x.calendars());
        taken(BoundsTest::some, "calendars()", 0, 3, (x, v) -> x.calendars());
        taken(BoundsTest::full, "calendars()", 0, 5, (x, v) -> x.calendars());
        taken(BoundsTest::empty, "feasts()", 0, 0, (x, v) -> x.feasts());
        taken(BoundsTest::some, "feasts()", 0, 4, (x, v) -> x.feasts());
        taken(BoundsTest::full, "feasts()", 0, 10, (x, v) -> x.feasts());
        taken(BoundsTest::full, "digest()", 0, full().digest(), (x, v) -> x.digest());
    }

    // ---- how they are asked

    private static void bounds(String call, int least, Object atLeast, int greatest, Object atGreatest, Asked asked) {
        bounds(call, least, atLeast, greatest, atGreatest, BoundsTest::some, asked);
    }

    private static void bounds(String call, int least, Object atLeast, int greatest, Object atGreatest, Maker rooms,
            Asked asked) {
        taken(rooms, call, least, atLeast, asked);
        taken(rooms, call, greatest, atGreatest, asked);
        for (int v : outside(least, greatest)) {
            refused(rooms, call, v, ARGUMENT, asked);
        }
    }

    private static int[] outside(int least, int greatest) {
        return new int[] {least - 1, greatest + 1, Integer.MIN_VALUE, Integer.MAX_VALUE};
    }

    /** Whatever its other arguments are, for this exception is named first. */
    private static void noCalendar(String call, Asked asked) {
        noneSuch(BoundsTest::empty, call, 0, asked);
        noneSuch(BoundsTest::some, call, 3, asked);
        noneSuch(BoundsTest::full, call, 5, asked);
    }

    private static void noFeast(String call, Asked asked) {
        noneSuch(BoundsTest::empty, call, 0, asked);
        noneSuch(BoundsTest::some, call, 4, asked);
        noneSuch(BoundsTest::full, call, 10, asked);
    }

    private static void noneSuch(Maker rooms, String call, int many, Asked asked) {
        for (int v : outside(0, many - 1)) {
            refused(rooms, call, v, INDEX, asked);
        }
    }

    private static void taken(Maker rooms, String call, int v, Object due, Asked asked) {
        AlmanacRoom x = rooms.make();
        String told = call.replace("#", Integer.toString(v));
        CHECK.is(told, due, () -> asked.of(x, v));
        String name = told.substring(0, told.indexOf('(')).replaceAll(".*\\W", "");
        if (!CHANGES.contains(name)) {
            unchanged(rooms, told, x);
        }
    }

    private static void refused(Maker rooms, String call, int v, String exception, Asked asked) {
        AlmanacRoom x = rooms.make();
        String told = call.replace("#", Integer.toString(v));
        CHECK.is(told, exception, () -> asked.of(x, v));
        unchanged(rooms, told, x);
    }

    private static void unchanged(Maker rooms, String told, AlmanacRoom x) {
        List<String> due = answers(rooms.make());
        List<String> got = answers(x);
        for (int k = 0; k < due.size() || k < got.size(); k++) {
            String one = k < due.size() ? due.get(k) : "nothing";
            String other = k < got.size() ? got.get(k) : "nothing";
            if (!one.equals(other)) {
                CHECK.is("behind " + told + ", what a room tells", one, () -> other);
                return;
            }
        }
        CHECK.is("behind " + told + ", what a room tells", "all the same", () -> "all the same");
    }

    /** What a room tells in fewer than 400 calls; the last ones change it, for they tell what was before. */
    private static List<String> answers(AlmanacRoom x) {
        List<String> all = new ArrayList<>();
        tell(all, "calendars()", () -> x.calendars());
        tell(all, "feasts()", () -> x.feasts());
        tell(all, "digest()", () -> x.digest());
        tell(all, "age(0)", () -> x.age(0));
        tell(all, "next(1000, 60)", () -> x.next(1000, 60));
        tell(all, "meetings(1000, 60)", () -> x.meetings(1000, 60));
        int calendars = x.calendars();
        int feasts = x.feasts();
        for (int k = 0; k < calendars; k++) {
            tellCalendar(all, x, k);
        }
        for (int k = 0; k < feasts; k++) {
            int f = k;
            tell(all, "feast(" + f + ", 0)", () -> x.feast(f, 0));
            tell(all, "feast(" + f + ", 3)", () -> x.feast(f, 3));
        }
        tell(all, "moon(0)", () -> x.moon(0));
        for (int k = 0; k < calendars; k++) {
            int c = k;
            tell(all, "leapMonth(" + c + ", 0)", () -> x.leapMonth(c, 0));
            tell(all, "leaps(" + c + ", 1, 0, 0)", () -> x.leaps(c, 1, 0, 0));
        }
        for (int k = 0; k < feasts; k++) {
            int f = k;
            tell(all, "shun(" + f + ", -1)", () -> x.shun(f, -1));
        }
        return all;
    }

    private static void tellCalendar(List<String> all, AlmanacRoom x, int k) {
        for (int y : new int[] {0, 1, 2, 3, 4, 100, 400, 3999}) {
            tell(all, "isLeap(" + k + ", " + y + ")", () -> x.isLeap(k, y));
            tell(all, "ofYear(" + k + ", " + y + ", 2)", () -> x.ofYear(k, y, 2));
        }
        for (int y : new int[] {0, 2}) {
            for (int month = 0; month < 13; month++) {
                int m = month;
                tell(all, "length(" + k + ", " + y + ", " + m + ")", () -> x.length(k, y, m));
            }
        }
        for (int what = 0; what < 4; what++) {
            int w = what;
            tell(all, "date(" + k + ", 1500, " + w + ")", () -> x.date(k, 1500, w));
        }
    }

    private static void tell(List<String> all, String call, Check.Call asked) {
        all.add(call + " = " + Check.answerOf(asked));
    }
}

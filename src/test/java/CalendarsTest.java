/** Promises 1 to 12: the calendars. */
public final class CalendarsTest {
    private static final Check CHECK = new Check();

    public static void main(String[] args) {
        promise1NewObject();
        promise2Calendar();
        promise2FirstRules();
        promise2FirstLeapYears();
        promise2Epoch();
        promise3SetMonth();
        promise3LengthsInLeapYears();
        promise4LeapMonth();
        promise4EachLeapMonth();
        promise5LeapsByMonths();
        promise5DividedYears();
        promise5LeapsByCycle();
        promise5CycledYears();
        promise6Moon();
        promise7Calendars();
        promise8IsLeap();
        promise9OfYear();
        promise9OfLastYear();
        promise10Length();
        promise10LengthByMoon();
        promise11Day();
        promise12Date();
        promise12DateInLeapMonth();
        promise12DateBehindChanges();
        promise12DateAtTheEnds();
        promise12EachYear();
        CHECK.end("CalendarsTest");
    }

    private static void promise1NewObject() {
        AlmanacRoom x = new AlmanacRoom();
        CHECK.is("calendars() of a new room", 0, () -> x.calendars());
        CHECK.is("feasts() of a new room", 0, () -> x.feasts());
        CHECK.is("age(0) of a new room: START is 0", 0, () -> x.age(0));
        CHECK.is("on(0) of a new room", 0, () -> x.on(0));
        CHECK.is("next(0, 60) of a new room", -1, () -> x.next(0, 60));
        CHECK.is("meetings(0, 60) of a new room", 0, () -> x.meetings(0, 60));
        CHECK.is("START of a new room", 0, () -> x.moon(0));
        AlmanacRoom y = new AlmanacRoom();
        x.calendar(0, 0);
        CHECK.is("calendars() of another room", 0, () -> y.calendars());
    }

    private static void promise2Calendar() {
        AlmanacRoom x = new AlmanacRoom();
        CHECK.argument("calendar(-1, 0)", () -> x.calendar(-1, 0));
        CHECK.argument("calendar(3, 0)", () -> x.calendar(3, 0));
        CHECK.argument("calendar(0, -1)", () -> x.calendar(0, -1));
        CHECK.argument("calendar(2, 1000001)", () -> x.calendar(2, 1000001));
        CHECK.argument("calendar(MIN, MAX)", () -> x.calendar(Integer.MIN_VALUE, Integer.MAX_VALUE));
        CHECK.is("calendars() behind refusals", 0, () -> x.calendars());
        CHECK.is("calendar(0, 0)", 0, () -> x.calendar(0, 0));
        CHECK.is("calendar(1, 1000000)", 1, () -> x.calendar(1, 1000000));
        CHECK.is("calendar(2, 7)", 2, () -> x.calendar(2, 7));
        CHECK.is("calendar(0, 9)", 3, () -> x.calendar(0, 9));
        CHECK.is("calendar(1, 8)", 4, () -> x.calendar(1, 8));
        CHECK.state("a sixth calendar", () -> x.calendar(0, 0));
        CHECK.argument("a sixth calendar of no sort", () -> x.calendar(3, 0));
        CHECK.argument("a sixth calendar of no epoch", () -> x.calendar(0, -1));
        CHECK.is("calendars() of five", 5, () -> x.calendars());
        CHECK.is("YEAR 0 of 1 begins on its EPOCH", 1000000, () -> x.ofYear(1, 0, 2));
        CHECK.is("YEAR 0 of 4 begins on its EPOCH", 8, () -> x.ofYear(4, 0, 2));
    }

    private static void promise2FirstRules() {
        AlmanacRoom x = new AlmanacRoom();
        x.calendar(0, 0);
        x.calendar(1, 0);
        x.calendar(2, 0);
        for (int month = 0; month < 12; month++) {
            int m = month;
            CHECK.is("length(0, 1, " + m + ")", m % 2 == 0 ? 31 : 30, () -> x.length(0, 1, m));
            int plain = m % 2 == 0 ? 30 : 29;
            CHECK.is("length(1, 0, " + m + ")", plain, () -> x.length(1, 0, m));
        }
        CHECK.is("the LEAP MONTH of sort 0 is 11", 31, () -> x.length(0, 4, 11));
        CHECK.is("the LEAP MONTH of sort 1 is 11", 30, () -> x.length(1, 2, 11));
        CHECK.is("A is 4 at first", 4, () -> x.leaps(0, 4, 0, 0));
        CHECK.is("CYCLE of sort 1 is 30 at first", 30, () -> x.leaps(1, 30, 11, 14));
        CHECK.is("CYCLE of sort 2 is 19 at first", 19, () -> x.leaps(2, 19, 7, 1));
    }

    /** YEAR by YEAR for 0 to 39, 1 for a LEAP YEAR. */
    private static void promise2FirstLeapYears() {
        String[] due = {
            "1000100010001000100010001000100010001000",
            "0010010100100100101001001010010010010100",
            "1001001010010010010100100101001001001010"};
        for (int sort = 0; sort < 3; sort++) {
            AlmanacRoom x = new AlmanacRoom();
            x.calendar(sort, 0);
            String got = leapYears(x, 0, 40);
            CHECK.is("the first LEAP YEARS of sort " + sort, due[sort], () -> got);
        }
    }

    /** The sorts 0 and 1 begin on it; by the MOON it is the first NEW one on it or later. */
    private static void promise2Epoch() {
        int[][] due = {{0, 0, 29}, {1, 29, 29}, {28, 29, 29}, {29, 29, 29}, {30, 59, 59}, {59, 59, 59}, {60, 88, 88},
            {999999, 1000023, 1000023}, {1000000, 1000023, 1000023}};
        for (int[] d : due) {
            AlmanacRoom x = new AlmanacRoom();
            for (int sort = 0; sort < 3; sort++) {
                x.calendar(sort, d[0]);
            }
            String epoch = ", EPOCH " + d[0];
            CHECK.is("YEAR 0 by MONTHS" + epoch, d[0], () -> x.ofYear(0, 0, 2));
            CHECK.is("YEAR 0 by a CYCLE" + epoch, d[0], () -> x.ofYear(1, 0, 2));
            CHECK.is("YEAR 0 by the MOON" + epoch, d[1], () -> x.ofYear(2, 0, 2));
            x.moon(29530587);
            CHECK.is("YEAR 0 by the MOON, there is none ahead of START" + epoch, d[2], () -> x.ofYear(2, 0, 2));
        }
    }

    private static String leapYears(AlmanacRoom x, int calendar, int many) {
        StringBuilder years = new StringBuilder();
        for (int year = 0; year < many; year++) {
            years.append(x.isLeap(calendar, year) ? '1' : '0');
        }
        return years.toString();
    }

    private static void promise3SetMonth() {
        AlmanacRoom x = new AlmanacRoom();
        CHECK.outOfBounds("setMonth(0, ..) without calendars", () -> x.setMonth(0, 0, 30));
        x.calendar(0, 0);
        x.calendar(1, 0);
        x.calendar(2, 0);
        CHECK.outOfBounds("setMonth(-1, 12, 41)", () -> x.setMonth(-1, 12, 41));
        CHECK.outOfBounds("setMonth(3, 12, 41)", () -> x.setMonth(3, 12, 41));
        CHECK.argument("setMonth by the MOON", () -> x.setMonth(2, 0, 30));
        CHECK.argument("setMonth(0, -1, 30)", () -> x.setMonth(0, -1, 30));
        CHECK.argument("setMonth(0, 12, 30)", () -> x.setMonth(0, 12, 30));
        CHECK.argument("setMonth(0, 0, 19)", () -> x.setMonth(0, 0, 19));
        CHECK.argument("setMonth(0, 0, 41)", () -> x.setMonth(0, 0, 41));
        CHECK.is("a refusal changes nothing", 31, () -> x.length(0, 0, 0));
        CHECK.is("setMonth(0, 0, 20)", 31, () -> x.setMonth(0, 0, 20));
        CHECK.is("setMonth(0, 0, 40)", 20, () -> x.setMonth(0, 0, 40));
        CHECK.is("setMonth(0, 11, 20)", 30, () -> x.setMonth(0, 11, 20));
        CHECK.is("setMonth(1, 11, 40)", 29, () -> x.setMonth(1, 11, 40));
        CHECK.is("length(0, 0, 0)", 40, () -> x.length(0, 0, 0));
        CHECK.is("length(0, 0, 11) of a LEAP YEAR", 21, () -> x.length(0, 0, 11));
        CHECK.is("YEAR 1 of 0 begins: 366 + 9 - 10 + 1", 366, () -> x.ofYear(0, 1, 2));
        CHECK.is("DAYS of the YEAR 0 of 1: 354 + 11", 365, () -> x.ofYear(1, 0, 1));
    }

    /** 1 more than the LENGTH: up to 41 DATES, and the last one that a FEAST can be on. */
    private static void promise3LengthsInLeapYears() {
        AlmanacRoom x = new AlmanacRoom();
        x.calendar(0, 0);
        x.setMonth(0, 11, 40);
        CHECK.is("40 and 1 more", 41, () -> x.length(0, 0, 11));
        CHECK.is("40 in no LEAP YEAR", 40, () -> x.length(0, 1, 11));
        CHECK.is("the last of 41 DATES", 376, () -> x.day(0, 0, 11, 40));
        CHECK.argument("there is no 42nd", () -> x.day(0, 0, 11, 41));
        CHECK.argument("there is no 41st in no LEAP YEAR", () -> x.day(0, 1, 11, 40));
        CHECK.is("the DATE of the last of 41", 40, () -> x.date(0, 376, 2));
        CHECK.is("behind it the YEAR 1 begins", 1, () -> x.date(0, 377, 0));
        x.setMonth(0, 11, 20);
        CHECK.is("20 and 1 more", 21, () -> x.length(0, 0, 11));
        CHECK.is("the last of 21 DATES", 356, () -> x.day(0, 0, 11, 20));
        CHECK.argument("there is no 22nd", () -> x.day(0, 0, 11, 21));
        CHECK.is("the last of 20 DATES", 357 + 336 + 19, () -> x.day(0, 1, 11, 19));
        CHECK.argument("there is no 21st in no LEAP YEAR", () -> x.day(0, 1, 11, 20));
        for (int month = 0; month < 12; month++) {
            int m = month;
            int before = m == 11 ? 20 : 31 - m % 2;
            CHECK.is("setMonth(0, " + m + ", 20)", before, () -> x.setMonth(0, m, 20));
        }
        CHECK.is("the shortest YEAR", 240, () -> x.ofYear(0, 1, 1));
        CHECK.is("the shortest LEAP YEAR", 241, () -> x.ofYear(0, 0, 1));
        for (int month = 0; month < 12; month++) {
            int m = month;
            CHECK.is("setMonth(0, " + m + ", 40)", 20, () -> x.setMonth(0, m, 40));
        }
        CHECK.is("the longest YEAR but for LEAP YEARS", 480, () -> x.ofYear(0, 1, 1));
        CHECK.is("the longest YEAR", 481, () -> x.ofYear(0, 0, 1));
        x.calendar(0, 1000000);
        CHECK.is("the other CALENDAR keeps its LENGTHS", 367, () -> x.ofYear(1, 0, 1));
    }

    private static void promise4LeapMonth() {
        AlmanacRoom x = new AlmanacRoom();
        CHECK.outOfBounds("leapMonth(0, 0) without calendars", () -> x.leapMonth(0, 0));
        x.calendar(0, 0);
        x.calendar(1, 0);
        x.calendar(2, 0);
        CHECK.outOfBounds("leapMonth(-1, 12)", () -> x.leapMonth(-1, 12));
        CHECK.outOfBounds("leapMonth(3, -1)", () -> x.leapMonth(3, -1));
        CHECK.argument("leapMonth by the MOON", () -> x.leapMonth(2, 0));
        CHECK.argument("leapMonth(0, -1)", () -> x.leapMonth(0, -1));
        CHECK.argument("leapMonth(0, 12)", () -> x.leapMonth(0, 12));
        CHECK.is("leapMonth(0, 0)", 11, () -> x.leapMonth(0, 0));
        CHECK.is("leapMonth(0, 1)", 0, () -> x.leapMonth(0, 1));
        CHECK.is("leapMonth(1, 11)", 11, () -> x.leapMonth(1, 11));
        CHECK.is("length(0, 0, 1)", 31, () -> x.length(0, 0, 1));
        CHECK.is("length(0, 0, 11)", 30, () -> x.length(0, 0, 11));
        CHECK.is("length(0, 1, 1) of no LEAP YEAR", 30, () -> x.length(0, 1, 1));
        CHECK.is("day(0, 0, 1, 0)", 31, () -> x.day(0, 0, 1, 0));
        CHECK.is("day(0, 0, 2, 0)", 62, () -> x.day(0, 0, 2, 0));
        CHECK.is("day(0, 0, 11, 29)", 366, () -> x.day(0, 0, 11, 29));
    }

    private static void promise4EachLeapMonth() {
        for (int sort = 0; sort < 2; sort++) {
            int leap = sort == 0 ? 4 : 2;
            int first = sort == 0 ? 31 : 30;
            AlmanacRoom x = new AlmanacRoom();
            x.calendar(sort, 0);
            int begins = x.ofYear(0, leap, 2);
            int before = 11;
            for (int month = 0; month < 12; month++) {
                int m = month;
                int was = before;
                CHECK.is("leapMonth(0, " + m + ")", was, () -> x.leapMonth(0, m));
                before = m;
                int length = first - m % 2 + 1;
                CHECK.is("the LEAP MONTH " + m, length, () -> x.length(0, leap, m));
                CHECK.is("the MONTH " + m + " of no LEAP YEAR", length - 1, () -> x.length(0, 1, m));
                int other = (m + 1) % 12;
                CHECK.is("the MONTH " + other + " beside it", first - other % 2, () -> x.length(0, leap, other));
                int start = begins + m * first - m / 2;
                CHECK.is("the LEAP MONTH " + m + " begins", start, () -> x.day(0, leap, m, 0));
                CHECK.is("the LEAP MONTH " + m + " ends", start + length - 1, () -> x.day(0, leap, m, length - 1));
                CHECK.is("the YEAR is as long as before", first * 12 - 6 + 1, () -> x.ofYear(0, leap, 1));
            }
        }
    }

    private static void promise5LeapsByMonths() {
        AlmanacRoom x = new AlmanacRoom();
        CHECK.outOfBounds("leaps(0, ..) without calendars", () -> x.leaps(0, 4, 0, 0));
        x.calendar(0, 0);
        CHECK.outOfBounds("leaps(1, -1, 0, 0)", () -> x.leaps(1, -1, 0, 0));
        CHECK.outOfBounds("leaps(-1, -1, 0, 0)", () -> x.leaps(-1, -1, 0, 0));
        CHECK.argument("leaps(0, -1, 0, 0)", () -> x.leaps(0, -1, 0, 0));
        CHECK.argument("leaps(0, 1001, 0, 0)", () -> x.leaps(0, 1001, 0, 0));
        CHECK.argument("leaps(0, 0, -1, 0)", () -> x.leaps(0, 0, -1, 0));
        CHECK.argument("leaps(0, 0, 1001, 0)", () -> x.leaps(0, 0, 1001, 0));
        CHECK.argument("leaps(0, 0, 0, -1)", () -> x.leaps(0, 0, 0, -1));
        CHECK.argument("leaps(0, 0, 0, 1001)", () -> x.leaps(0, 0, 0, 1001));
        CHECK.is("leaps(0, 1000, 1000, 1000)", 4, () -> x.leaps(0, 1000, 1000, 1000));
        CHECK.is("what B and C take too is one", true, () -> x.isLeap(0, 3000));
        CHECK.is("leaps(0, 4, 100, 400)", 1000, () -> x.leaps(0, 4, 100, 400));
        CHECK.is("isLeap(0, 1900)", false, () -> x.isLeap(0, 1900));
        CHECK.is("isLeap(0, 2000)", true, () -> x.isLeap(0, 2000));
        CHECK.is("isLeap(0, 2004)", true, () -> x.isLeap(0, 2004));
        CHECK.is("isLeap(0, 2001)", false, () -> x.isLeap(0, 2001));
        CHECK.is("ofYear(0, 2000, 2): 500 - 20 + 5 LEAP YEARS", 2000 * 366 + 485, () -> x.ofYear(0, 2000, 2));
        CHECK.is("leaps(0, 6, 4, 0)", 4, () -> x.leaps(0, 6, 4, 0));
        CHECK.is("isLeap(0, 6)", true, () -> x.isLeap(0, 6));
        CHECK.is("isLeap(0, 12): 4 takes it", false, () -> x.isLeap(0, 12));
        CHECK.is("isLeap(0, 4): A does not have it", false, () -> x.isLeap(0, 4));
        CHECK.is("ofYear(0, 25, 2): 6, 18", 25 * 366 + 2, () -> x.ofYear(0, 25, 2));
        CHECK.is("leaps(0, 4, 0, 3)", 6, () -> x.leaps(0, 4, 0, 3));
        CHECK.is("without B, C says nothing", true, () -> x.isLeap(0, 4));
        CHECK.is("leaps(0, 0, 7, 7)", 4, () -> x.leaps(0, 0, 7, 7));
        CHECK.is("without A, there are none", false, () -> x.isLeap(0, 0));
        CHECK.is("ofYear(0, 3999, 2) without LEAP YEARS", 3999 * 366, () -> x.ofYear(0, 3999, 2));
        CHECK.is("leaps(0, 0, 0, 0)", 0, () -> x.leaps(0, 0, 0, 0));
    }

    /** Of each rule the YEARS 0 to 12, 1 for a LEAP YEAR. */
    private static void promise5DividedYears() {
        rule(0, "1010100010101", 2, 3, 4);
        rule(0, "0010100010100", 2, 3, 0);
        rule(0, "1010101010101", 2, 0, 4);
        rule(0, "1010101010101", 2, 0, 0);
        rule(0, "0000000000000", 0, 3, 4);
        rule(0, "0000000000000", 0, 0, 1);
        rule(0, "0000000000000", 0, 0, 0);
        rule(0, "1001000001001", 3, 2, 4);
        rule(0, "1000100010001", 4, 6, 3);
        rule(0, "1101011101011", 1, 2, 3);
        rule(0, "1000000000100", 5, 5, 10);
        rule(0, "1111111111111", 1, 1, 1);
        rule(0, "1111111111111", 1, 0, 0);
        rule(0, "0000000000000", 1, 1, 0);
        rule(0, "0111111111111", 1, 1000, 0);
        rule(0, "1111111111111", 1, 1000, 1000);
        rule(0, "1000000000000", 1000, 1000, 1000);
        rule(0, "0000000000000", 1000, 1, 0);
    }

    private static void promise5CycledYears() {
        for (int sort = 1; sort < 3; sort++) {
            rule(sort, "0000000000000", 1, 0, 0);
            rule(sort, "1111111111111", 1, 1, 0);
            rule(sort, "1001001001001", 3, 1, 0);
            rule(sort, "0010010010010", 3, 1, 1);
            rule(sort, "0100100100100", 3, 1, 2);
            rule(sort, "0110110110110", 3, 2, 2);
            rule(sort, "1111111111111", 3, 3, 2);
            rule(sort, "0000000000000", 3, 0, 2);
            rule(sort, "0111111111111", 100, 99, 99);
            rule(sort, "1000000000000", 100, 1, 0);
            rule(sort, "0100000000000", 100, 1, 99);
        }
    }

    /** The same by isLeap() and by how long the YEARS are, for leaps() and for beginsWith(). */
    private static void rule(int sort, String due, int a, int b, int c) {
        AlmanacRoom x = new AlmanacRoom();
        x.calendar(sort, 1000);
        String told = " with " + a + ", " + b + ", " + c + " of sort " + sort;
        StringBuilder begun = new StringBuilder();
        for (int year = 0; year < due.length(); year++) {
            int days = x.beginsWith(0, a, b, c, year + 1) - x.beginsWith(0, a, b, c, year);
            begun.append(days > 380 || sort < 2 && days == 367 - 12 * sort ? '1' : '0');
        }
        CHECK.is("YEARS by beginsWith()" + told, due, () -> begun.toString());
        x.leaps(0, a, b, c);
        CHECK.is("LEAP YEARS" + told, due, () -> leapYears(x, 0, due.length()));
        StringBuilder laid = new StringBuilder();
        for (int year = 0; year < due.length(); year++) {
            int days = x.ofYear(0, year, 1);
            laid.append(days > 380 || sort < 2 && days == 367 - 12 * sort ? '1' : '0');
        }
        CHECK.is("YEARS by ofYear()" + told, due, () -> laid.toString());
    }

    private static void promise5LeapsByCycle() {
        AlmanacRoom x = new AlmanacRoom();
        x.calendar(1, 0);
        x.calendar(2, 0);
        for (int calendar = 0; calendar < 2; calendar++) {
            int k = calendar;
            CHECK.argument("leaps(" + k + ", 0, 0, 0)", () -> x.leaps(k, 0, 0, 0));
            CHECK.argument("leaps(" + k + ", 101, 0, 0)", () -> x.leaps(k, 101, 0, 0));
            CHECK.argument("leaps(" + k + ", 5, -1, 0)", () -> x.leaps(k, 5, -1, 0));
            CHECK.argument("leaps(" + k + ", 5, 6, 0)", () -> x.leaps(k, 5, 6, 0));
            CHECK.argument("leaps(" + k + ", 5, 2, -1)", () -> x.leaps(k, 5, 2, -1));
            CHECK.argument("leaps(" + k + ", 5, 2, 5)", () -> x.leaps(k, 5, 2, 5));
            int before = k == 0 ? 30 : 19;
            CHECK.is("leaps(" + k + ", 100, 0, 99)", before, () -> x.leaps(k, 100, 0, 99));
            CHECK.is("no LEAPS", false, () -> x.isLeap(k, 1));
            CHECK.is("leaps(" + k + ", 1, 1, 0)", 100, () -> x.leaps(k, 1, 1, 0));
            CHECK.is("nothing but LEAPS", true, () -> x.isLeap(k, 3999));
            CHECK.is("leaps(" + k + ", 5, 2, 4)", 1, () -> x.leaps(k, 5, 2, 4));
            String years = "";
            for (int year = 0; year < 10; year++) {
                years += x.isLeap(k, year) ? "1" : "0";
            }
            String got = years;
            CHECK.is("(YEAR * 2 + 4) % 5 < 2 of " + k, "0101001010", () -> got);
        }
        CHECK.is("ofYear(0, 10, 2) with 4 LEAP YEARS", 3544, () -> x.ofYear(0, 10, 2));
        CHECK.is("ofYear(1, 10, 2): 124 MONTHS on", 3661, () -> x.ofYear(1, 10, 2));
    }

    private static void promise6Moon() {
        AlmanacRoom x = new AlmanacRoom();
        x.calendar(2, 10);
        CHECK.argument("moon(-1)", () -> x.moon(-1));
        CHECK.argument("moon(29530588)", () -> x.moon(29530588));
        CHECK.is("a refusal changes nothing", 29, () -> x.ofYear(0, 0, 2));
        CHECK.is("moon(29530587)", 0, () -> x.moon(29530587));
        CHECK.is("YEAR 0 by the new START", 29, () -> x.ofYear(0, 0, 2));
        CHECK.is("moon(10000000)", 29530587, () -> x.moon(10000000));
        CHECK.is("YEAR 0 on its EPOCH", 10, () -> x.ofYear(0, 0, 2));
        CHECK.is("moon(9999999)", 10000000, () -> x.moon(9999999));
        CHECK.is("YEAR 0 a MONTH later", 39, () -> x.ofYear(0, 0, 2));
        CHECK.is("moon(0)", 9999999, () -> x.moon(0));
        CHECK.is("quarter(0, 1)", 7, () -> x.quarter(0, 1));
    }

    private static void promise7Calendars() {
        AlmanacRoom x = new AlmanacRoom();
        for (int many = 0; many < 5; many++) {
            CHECK.is("calendars()", many, () -> x.calendars());
            x.calendar(many % 3, many);
        }
        CHECK.is("calendars()", 5, () -> x.calendars());
        Check.answerOf(() -> x.calendar(0, 0));
        CHECK.is("calendars() behind a refusal", 5, () -> x.calendars());
    }

    private static void promise8IsLeap() {
        AlmanacRoom x = new AlmanacRoom();
        CHECK.outOfBounds("isLeap(0, 0) without calendars", () -> x.isLeap(0, 0));
        x.calendar(0, 0);
        x.calendar(1, 0);
        x.calendar(2, 0);
        CHECK.outOfBounds("isLeap(3, -1)", () -> x.isLeap(3, -1));
        CHECK.outOfBounds("isLeap(-1, 4000)", () -> x.isLeap(-1, 4000));
        CHECK.argument("isLeap(0, -1)", () -> x.isLeap(0, -1));
        CHECK.argument("isLeap(0, 4000)", () -> x.isLeap(0, 4000));
        CHECK.is("isLeap(0, 0)", true, () -> x.isLeap(0, 0));
        CHECK.is("isLeap(0, 100)", true, () -> x.isLeap(0, 100));
        CHECK.is("isLeap(0, 3999)", false, () -> x.isLeap(0, 3999));
        CHECK.is("isLeap(1, 0): 14", false, () -> x.isLeap(1, 0));
        CHECK.is("isLeap(1, 1): 25", false, () -> x.isLeap(1, 1));
        CHECK.is("isLeap(1, 2): 36 % 30 = 6", true, () -> x.isLeap(1, 2));
        CHECK.is("isLeap(1, 32): the CYCLE again", true, () -> x.isLeap(1, 32));
        CHECK.is("isLeap(2, 0): 1", true, () -> x.isLeap(2, 0));
        CHECK.is("isLeap(2, 1): 8", false, () -> x.isLeap(2, 1));
        CHECK.is("isLeap(2, 3): 22 % 19 = 3", true, () -> x.isLeap(2, 3));
        CHECK.is("isLeap(2, 19)", true, () -> x.isLeap(2, 19));
    }

    private static void promise9OfYear() {
        AlmanacRoom x = new AlmanacRoom();
        CHECK.outOfBounds("ofYear(0, 0, 0) without calendars", () -> x.ofYear(0, 0, 0));
        x.calendar(0, 100);
        x.calendar(2, 0);
        CHECK.outOfBounds("ofYear(2, -1, 3)", () -> x.ofYear(2, -1, 3));
        CHECK.outOfBounds("ofYear(-1, 0, 0)", () -> x.ofYear(-1, 0, 0));
        CHECK.argument("ofYear(0, -1, 0)", () -> x.ofYear(0, -1, 0));
        CHECK.argument("ofYear(0, 4000, 0)", () -> x.ofYear(0, 4000, 0));
        CHECK.argument("ofYear(0, 0, -1)", () -> x.ofYear(0, 0, -1));
        CHECK.argument("ofYear(0, 0, 3)", () -> x.ofYear(0, 0, 3));
        CHECK.is("ofYear(0, 0, 0)", 12, () -> x.ofYear(0, 0, 0));
        CHECK.is("ofYear(0, 0, 1)", 367, () -> x.ofYear(0, 0, 1));
        CHECK.is("ofYear(0, 1, 1)", 366, () -> x.ofYear(0, 1, 1));
        CHECK.is("ofYear(0, 0, 2)", 100, () -> x.ofYear(0, 0, 2));
        CHECK.is("ofYear(0, 1, 2)", 467, () -> x.ofYear(0, 1, 2));
        CHECK.is("ofYear(0, 3999, 2)", 100 + 3999 * 366 + 1000, () -> x.ofYear(0, 3999, 2));
        CHECK.is("ofYear(1, 0, 0)", 13, () -> x.ofYear(1, 0, 0));
        CHECK.is("ofYear(1, 1, 0)", 12, () -> x.ofYear(1, 1, 0));
        CHECK.is("ofYear(1, 0, 1): 13 * 29.530588", 383, () -> x.ofYear(1, 0, 1));
        CHECK.is("ofYear(1, 1, 1): 25 * 29.530588 - 383", 355, () -> x.ofYear(1, 1, 1));
        CHECK.is("ofYear(1, 3999, 1): there is a YEAR behind it", 355, () -> x.ofYear(1, 3999, 1));
    }

    /** The YEAR 3999 as a LEAP YEAR and as none: what follows it is no YEAR, but it has an end. */
    private static void promise9OfLastYear() {
        lastYear(0, 0, 0, false, 12, 366, 1463634);
        lastYear(0, 1, 0, true, 12, 367, 1467633);
        lastYear(1, 1, 0, false, 12, 354, 1415646);
        lastYear(1, 1, 1, true, 12, 355, 1419645);
        lastYear(2, 1, 0, false, 12, 355, 1417113);
        lastYear(2, 1, 1, true, 13, 384, 1535206);
    }

    private static void lastYear(int sort, int a, int b, boolean leap, int months, int days, int begins) {
        AlmanacRoom x = new AlmanacRoom();
        x.calendar(sort, 0);
        x.leaps(0, a, b, 0);
        String told = " of 3999, sort " + sort + (leap ? ", a LEAP YEAR" : "");
        CHECK.is("isLeap()" + told, leap, () -> x.isLeap(0, 3999));
        CHECK.is("the MONTHS" + told, months, () -> x.ofYear(0, 3999, 0));
        CHECK.is("the DAYS" + told, days, () -> x.ofYear(0, 3999, 1));
        CHECK.is("the first DAY" + told, begins, () -> x.ofYear(0, 3999, 2));
        CHECK.is("the YEAR of the last DAY" + told, 3999, () -> x.date(0, begins + days - 1, 0));
        CHECK.is("the last DAY of the YEAR" + told, days - 1, () -> x.date(0, begins + days - 1, 3));
        CHECK.is("behind the last DAY" + told, -1, () -> x.date(0, begins + days, 0));
        CHECK.argument("a MONTH too many" + told, () -> x.length(0, 3999, months));
    }

    private static void promise10Length() {
        AlmanacRoom x = new AlmanacRoom();
        CHECK.outOfBounds("length(0, 0, 0) without calendars", () -> x.length(0, 0, 0));
        x.calendar(0, 0);
        x.calendar(2, 0);
        CHECK.outOfBounds("length(2, -1, -1)", () -> x.length(2, -1, -1));
        CHECK.outOfBounds("length(-1, 0, 0)", () -> x.length(-1, 0, 0));
        CHECK.argument("length(0, -1, 0)", () -> x.length(0, -1, 0));
        CHECK.argument("length(0, 4000, 0)", () -> x.length(0, 4000, 0));
        CHECK.argument("length(0, 0, -1)", () -> x.length(0, 0, -1));
        CHECK.argument("length(0, 0, 12)", () -> x.length(0, 0, 12));
        CHECK.argument("length(1, 0, 13)", () -> x.length(1, 0, 13));
        CHECK.argument("length(1, 1, 12) of no LEAP YEAR", () -> x.length(1, 1, 12));
        CHECK.is("length(0, 0, 11)", 31, () -> x.length(0, 0, 11));
        CHECK.is("length(0, 3999, 11)", 30, () -> x.length(0, 3999, 11));
        CHECK.is("length(1, 0, 0): 0 to 29", 29, () -> x.length(1, 0, 0));
        CHECK.is("length(1, 0, 1): 29 to 59", 30, () -> x.length(1, 0, 1));
        CHECK.is("length(1, 0, 12): 354 to 383", 29, () -> x.length(1, 0, 12));
        CHECK.is("length(1, 1, 11): 708 to 738", 30, () -> x.length(1, 1, 11));
    }

    /** Each MONTH begins on the DAY of a NEW MOON, and is there until the next one. */
    private static void promise10LengthByMoon() {
        for (int start : new int[] {0, 469411, 469412, 29530587}) {
            AlmanacRoom x = new AlmanacRoom();
            x.moon(start);
            x.calendar(2, 500);
            int begins = x.quarter(500, 0);
            for (int year = 0; year < 6; year++) {
                int y = year;
                int months = x.ofYear(0, y, 0);
                for (int month = 0; month < months; month++) {
                    int m = month;
                    int from = begins;
                    int to = x.quarter(from + 1, 0);
                    String told = "(0, " + y + ", " + m + "), START " + start;
                    CHECK.is("day" + told, from, () -> x.day(0, y, m, 0));
                    CHECK.is("length" + told, to - from, () -> x.length(0, y, m));
                    begins = to;
                }
            }
        }
        AlmanacRoom x = new AlmanacRoom();
        x.calendar(2, 7);
        x.leaps(0, 1, 1, 0);
        CHECK.is("the 13th MONTH of 3999", 30, () -> x.length(0, 3999, 12));
        CHECK.is("its last DAY", 1535619, () -> x.day(0, 3999, 12, 29));
        CHECK.argument("there is no 31st DATE in it", () -> x.day(0, 3999, 12, 30));
        CHECK.argument("there is no 14th MONTH", () -> x.length(0, 3999, 13));
        is4(x, 0, 1535619, 3999, 12, 29, 383);
        is4(x, 0, 1535620, -1, -1, -1, -1);
    }

    private static void promise11Day() {
        AlmanacRoom x = new AlmanacRoom();
        CHECK.outOfBounds("day(0, 0, 0, 0) without calendars", () -> x.day(0, 0, 0, 0));
        x.calendar(0, 50);
        x.calendar(2, 0);
        CHECK.outOfBounds("day(2, -1, -1, -1)", () -> x.day(2, -1, -1, -1));
        CHECK.outOfBounds("day(-1, 0, 0, 0)", () -> x.day(-1, 0, 0, 0));
        CHECK.argument("day(0, -1, 0, 0)", () -> x.day(0, -1, 0, 0));
        CHECK.argument("day(0, 4000, 0, 0)", () -> x.day(0, 4000, 0, 0));
        CHECK.argument("day(0, 0, -1, 0)", () -> x.day(0, 0, -1, 0));
        CHECK.argument("day(0, 0, 12, 0)", () -> x.day(0, 0, 12, 0));
        CHECK.argument("day(1, 1, 12, 0)", () -> x.day(1, 1, 12, 0));
        CHECK.argument("day(0, 0, 0, -1)", () -> x.day(0, 0, 0, -1));
        CHECK.argument("day(0, 0, 0, 31)", () -> x.day(0, 0, 0, 31));
        CHECK.argument("day(0, 1, 11, 30) of no LEAP YEAR", () -> x.day(0, 1, 11, 30));
        CHECK.is("day(0, 0, 11, 30) of a LEAP YEAR", 50 + 366, () -> x.day(0, 0, 11, 30));
        CHECK.is("day(0, 0, 0, 0)", 50, () -> x.day(0, 0, 0, 0));
        CHECK.is("day(0, 0, 0, 30)", 80, () -> x.day(0, 0, 0, 30));
        CHECK.is("day(0, 2, 3, 4)", 50 + 367 + 366 + 92 + 4, () -> x.day(0, 2, 3, 4));
        CHECK.is("day(0, 3999, 11, 29)", 50 + 4000 * 366 + 1000 - 1, () -> x.day(0, 3999, 11, 29));
        CHECK.is("day(1, 0, 12, 28)", 382, () -> x.day(1, 0, 12, 28));
        CHECK.argument("day(1, 0, 12, 29)", () -> x.day(1, 0, 12, 29));
        CHECK.is("day(1, 1, 0, 0)", 383, () -> x.day(1, 1, 0, 0));
    }

    private static void promise12Date() {
        AlmanacRoom x = new AlmanacRoom();
        CHECK.outOfBounds("date(0, 0, 0) without calendars", () -> x.date(0, 0, 0));
        x.calendar(0, 50);
        CHECK.outOfBounds("date(1, -1, 4)", () -> x.date(1, -1, 4));
        CHECK.outOfBounds("date(-1, 0, 0)", () -> x.date(-1, 0, 0));
        CHECK.argument("date(0, -1, 0)", () -> x.date(0, -1, 0));
        CHECK.argument("date(0, 3000000, 0)", () -> x.date(0, 3000000, 0));
        CHECK.argument("date(0, 0, -1)", () -> x.date(0, 0, -1));
        CHECK.argument("date(0, 0, 4)", () -> x.date(0, 0, 4));
        is4(x, 0, 50, 0, 0, 0, 0);
        is4(x, 0, 80, 0, 0, 30, 30);
        is4(x, 0, 81, 0, 1, 0, 31);
        is4(x, 0, 416, 0, 11, 30, 366);
        is4(x, 0, 417, 1, 0, 0, 0);
        is4(x, 0, 879, 2, 3, 4, 96);
        x.leapMonth(0, 0);
        is4(x, 0, 81, 0, 0, 31, 31);
        is4(x, 0, 82, 0, 1, 0, 32);
        x.calendar(2, 0);
        is4(x, 1, 28, 0, 0, 28, 28);
        is4(x, 1, 29, 0, 1, 0, 29);
        is4(x, 1, 382, 0, 12, 28, 382);
        is4(x, 1, 383, 1, 0, 0, 0);
        is4(x, 1, 737, 1, 11, 29, 354);
    }

    private static void promise12DateInLeapMonth() {
        AlmanacRoom x = new AlmanacRoom();
        x.calendar(0, 0);
        x.leapMonth(0, 5);
        is4(x, 0, 152, 0, 4, 30, 152);
        is4(x, 0, 153, 0, 5, 0, 153);
        is4(x, 0, 182, 0, 5, 29, 182);
        is4(x, 0, 183, 0, 5, 30, 183);
        is4(x, 0, 184, 0, 6, 0, 184);
        is4(x, 0, 366, 0, 11, 29, 366);
        is4(x, 0, 367 + 182, 1, 5, 29, 182);
        is4(x, 0, 367 + 183, 1, 6, 0, 183);
        x.calendar(1, 0);
        is4(x, 1, 353, 0, 11, 28, 353);
        is4(x, 1, 354, 1, 0, 0, 0);
        is4(x, 1, 1062, 2, 11, 29, 354);
        is4(x, 1, 1063, 3, 0, 0, 0);
        x.leapMonth(1, 11);
        is4(x, 1, 1061, 2, 11, 28, 353);
    }

    /** Asked ahead of each change and behind it: what has been told once may not be kept. */
    private static void promise12DateBehindChanges() {
        AlmanacRoom x = new AlmanacRoom();
        x.calendar(0, 0);
        x.calendar(2, 10);
        is4(x, 0, 733, 2, 0, 0, 0);
        is4(x, 1, 800, 2, 1, 3, 33);
        x.setMonth(0, 0, 40);
        is4(x, 0, 733, 1, 11, 12, 357);
        x.leaps(0, 0, 0, 0);
        is4(x, 0, 733, 1, 11, 13, 358);
        x.leaps(1, 1, 0, 0);
        is4(x, 1, 800, 2, 2, 3, 62);
        x.moon(12000000);
        is4(x, 1, 800, 2, 2, 21, 80);
    }

    private static void promise12DateAtTheEnds() {
        AlmanacRoom x = new AlmanacRoom();
        x.calendar(0, 50);
        x.calendar(1, 1000000);
        x.calendar(2, 50);
        is4(x, 0, 49, -1, -1, -1, -1);
        is4(x, 0, 0, -1, -1, -1, -1);
        is4(x, 1, 999999, -1, -1, -1, -1);
        is4(x, 1, 1000000, 0, 0, 0, 0);
        is4(x, 2, 58, -1, -1, -1, -1);
        is4(x, 2, 59, 0, 0, 0, 0);
        int behind = 50 + 4000 * 366 + 1000;
        is4(x, 0, behind - 1, 3999, 11, 29, 365);
        is4(x, 0, behind, -1, -1, -1, -1);
        is4(x, 0, 2999999, -1, -1, -1, -1);
        is4(x, 1, 0, -1, -1, -1, -1);
        is4(x, 1, 2417465, 3999, 11, 28, 353);
        is4(x, 1, 2417466, -1, -1, -1, -1);
        is4(x, 1, 2999999, -1, -1, -1, -1);
        is4(x, 2, 0, -1, -1, -1, -1);
        is4(x, 2, 2999999, -1, -1, -1, -1);
        int last = x.ofYear(2, 3999, 2) + x.ofYear(2, 3999, 1) - 1;
        CHECK.is("the last DAY by the MOON", 3999, () -> x.date(2, last, 0));
        is4(x, 2, last + 1, -1, -1, -1, -1);
    }

    /** A new room for each hundred YEARS: an object is used for at most 512 calls. */
    private static void promise12EachYear() {
        for (int sort = 0; sort < 3; sort++) {
            for (int from = 0; from < 4000; from += 100) {
                AlmanacRoom x = new AlmanacRoom();
                x.calendar(sort, 20);
                for (int y = from; y < from + 100; y++) {
                    int year = y;
                    int start = x.ofYear(0, year, 2);
                    String of = " the DAY on which " + year + " of sort " + sort + " begins";
                    CHECK.is("on" + of, year, () -> x.date(0, start, 0));
                    CHECK.is("ahead of" + of, year - 1, () -> x.date(0, start - 1, 0));
                }
            }
        }
    }

    private static void is4(AlmanacRoom x, int calendar, int day, int... due) {
        for (int what = 0; what < 4; what++) {
            int w = what;
            CHECK.is("date(" + calendar + ", " + day + ", " + w + ")", due[w], () -> x.date(calendar, day, w));
        }
    }
}

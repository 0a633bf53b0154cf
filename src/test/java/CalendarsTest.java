/** Promises 1 to 12: the calendars. */
public final class CalendarsTest {
    private static final Check CHECK = new Check();

    public static void main(String[] args) {
        promise1NewObject();
        promise2Calendar();
        promise2FirstRules();
        promise3SetMonth();
        promise4LeapMonth();
        promise5LeapsByMonths();
        promise5LeapsByCycle();
        promise6Moon();
        promise7Calendars();
        promise8IsLeap();
        promise9OfYear();
        promise10Length();
        promise11Day();
        promise12Date();
        promise12DateAtTheEnds();
        promise12EachYear();
        CHECK.end("CalendarsTest");
    }

    private static void promise1NewObject() {
        AlmanacRoom x = new AlmanacRoom();
        CHECK.is("calendars() of a new room", 0, () -> x.calendars());
        CHECK.is("feasts() of a new room", 0, () -> x.feasts());
        CHECK.is("age(0) of a new room: START is 0", 0, () -> x.age(0));
        CHECK.is("on(0) of a new room", 0, () -> x.on(0));
        AlmanacRoom y = new AlmanacRoom();
        x.calendar(0, 0);
        CHECK.is("calendars() of another room", 0, () -> y.calendars());
    }

    private static void promise2Calendar() {
        AlmanacRoom x = new AlmanacRoom();
        CHECK.argument("calendar(-1, 0)", () -> x.calendar(-1, 0));
        CHECK.argument("calendar(3, 0)", () -> x.calendar(3, 0));
        CHECK.argument("calendar(0, -1)", () -> x.calendar(0, -1));
        CHECK.argument("calendar(2, 1000001)", () -> x.calendar(2, 1000001));
        CHECK.argument("calendar(MIN, MAX)", () -> x.calendar(Integer.MIN_VALUE, Integer.MAX_VALUE));
        CHECK.is("calendars() behind refusals", 0, () -> x.calendars());
        CHECK.is("calendar(0, 0)", 0, () -> x.calendar(0, 0));
        CHECK.is("calendar(1, 1000000)", 1, () -> x.calendar(1, 1000000));
        CHECK.is("calendar(2, 7)", 2, () -> x.calendar(2, 7));
        CHECK.is("calendar(0, 9)", 3, () -> x.calendar(0, 9));
        CHECK.is("calendar(1, 8)", 4, () -> x.calendar(1, 8));
        CHECK.state("a sixth calendar", () -> x.calendar(0, 0));
        CHECK.argument("a sixth calendar of no sort", () -> x.calendar(3, 0));
        CHECK.argument("a sixth calendar of no epoch", () -> x.calendar(0, -1));
        CHECK.is("calendars() of five", 5, () -> x.calendars());
        CHECK.is("YEAR 0 of 1 begins on its EPOCH", 1000000, () -> x.ofYear(1, 0, 2));
        CHECK.is("YEAR 0 of 4 begins on its EPOCH", 8, () -> x.ofYear(4, 0, 2));
    }

    private static void promise2FirstRules() {
        AlmanacRoom x = new AlmanacRoom();
        x.calendar(0, 0);
        x.calendar(1, 0);
        x.calendar(2, 0);
        for (int month = 0; month < 12; month++) {
            int m = month;
            CHECK.is("length(0, 1, " + m + ")", m % 2 == 0 ? 31 : 30, () -> x.length(0, 1, m));
            int plain = m % 2 == 0 ? 30 : 29;
            CHECK.is("length(1, 0, " + m + ")", plain, () -> x.length(1, 0, m));
        }
        CHECK.is("the LEAP MONTH of sort 0 is 11", 31, () -> x.length(0, 4, 11));
        CHECK.is("the LEAP MONTH of sort 1 is 11", 30, () -> x.length(1, 2, 11));
        CHECK.is("A is 4 at first", 4, () -> x.leaps(0, 4, 0, 0));
        CHECK.is("CYCLE of sort 1 is 30 at first", 30, () -> x.leaps(1, 30, 11, 14));
        CHECK.is("CYCLE of sort 2 is 19 at first", 19, () -> x.leaps(2, 19, 7, 1));
    }

    private static void promise3SetMonth() {
        AlmanacRoom x = new AlmanacRoom();
        CHECK.outOfBounds("setMonth(0, ..) without calendars", () -> x.setMonth(0, 0, 30));
        x.calendar(0, 0);
        x.calendar(1, 0);
        x.calendar(2, 0);
        CHECK.outOfBounds("setMonth(-1, 12, 41)", () -> x.setMonth(-1, 12, 41));
        CHECK.outOfBounds("setMonth(3, 12, 41)", () -> x.setMonth(3, 12, 41));
        CHECK.argument("setMonth by the MOON", () -> x.setMonth(2, 0, 30));
        CHECK.argument("setMonth(0, -1, 30)", () -> x.setMonth(0, -1, 30));
        CHECK.argument("setMonth(0, 12, 30)", () -> x.setMonth(0, 12, 30));
        CHECK.argument("setMonth(0, 0, 19)", () -> x.setMonth(0, 0, 19));
        CHECK.argument("setMonth(0, 0, 41)", () -> x.setMonth(0, 0, 41));
        CHECK.is("a refusal changes nothing", 31, () -> x.length(0, 0, 0));
        CHECK.is("setMonth(0, 0, 20)", 31, () -> x.setMonth(0, 0, 20));
        CHECK.is("setMonth(0, 0, 40)", 20, () -> x.setMonth(0, 0, 40));
        CHECK.is("setMonth(0, 11, 20)", 30, () -> x.setMonth(0, 11, 20));
        CHECK.is("setMonth(1, 11, 40)", 29, () -> x.setMonth(1, 11, 40));
        CHECK.is("length(0, 0, 0)", 40, () -> x.length(0, 0, 0));
        CHECK.is("length(0, 0, 11) of a LEAP YEAR", 21, () -> x.length(0, 0, 11));
        CHECK.is("YEAR 1 of 0 begins: 366 + 9 - 10 + 1", 366, () -> x.ofYear(0, 1, 2));
        CHECK.is("DAYS of the YEAR 0 of 1: 354 + 11", 365, () -> x.ofYear(1, 0, 1));
    }

    private static void promise4LeapMonth() {
        AlmanacRoom x = new AlmanacRoom();
        CHECK.outOfBounds("leapMonth(0, 0) without calendars", () -> x.leapMonth(0, 0));
        x.calendar(0, 0);
        x.calendar(1, 0);
        x.calendar(2, 0);
        CHECK.outOfBounds("leapMonth(-1, 12)", () -> x.leapMonth(-1, 12));
        CHECK.outOfBounds("leapMonth(3, -1)", () -> x.leapMonth(3, -1));
        CHECK.argument("leapMonth by the MOON", () -> x.leapMonth(2, 0));
        CHECK.argument("leapMonth(0, -1)", () -> x.leapMonth(0, -1));
        CHECK.argument("leapMonth(0, 12)", () -> x.leapMonth(0, 12));
        CHECK.is("leapMonth(0, 0)", 11, () -> x.leapMonth(0, 0));
        CHECK.is("leapMonth(0, 1)", 0, () -> x.leapMonth(0, 1));
        CHECK.is("leapMonth(1, 11)", 11, () -> x.leapMonth(1, 11));
        CHECK.is("length(0, 0, 1)", 31, () -> x.length(0, 0, 1));
        CHECK.is("length(0, 0, 11)", 30, () -> x.length(0, 0, 11));
        CHECK.is("length(0, 1, 1) of no LEAP YEAR", 30, () -> x.length(0, 1, 1));
        CHECK.is("day(0, 0, 1, 0)", 31, () -> x.day(0, 0, 1, 0));
        CHECK.is("day(0, 0, 2, 0)", 62, () -> x.day(0, 0, 2, 0));
        CHECK.is("day(0, 0, 11, 29)", 366, () -> x.day(0, 0, 11, 29));
    }

    private static void promise5LeapsByMonths() {
        AlmanacRoom x = new AlmanacRoom();
        CHECK.outOfBounds("leaps(0, ..) without calendars", () -> x.leaps(0, 4, 0, 0));
        x.calendar(0, 0);
        CHECK.outOfBounds("leaps(1, -1, 0, 0)", () -> x.leaps(1, -1, 0, 0));
        CHECK.outOfBounds("leaps(-1, -1, 0, 0)", () -> x.leaps(-1, -1, 0, 0));
        CHECK.argument("leaps(0, -1, 0, 0)", () -> x.leaps(0, -1, 0, 0));
        CHECK.argument("leaps(0, 1001, 0, 0)", () -> x.leaps(0, 1001, 0, 0));
        CHECK.argument("leaps(0, 0, -1, 0)", () -> x.leaps(0, 0, -1, 0));
        CHECK.argument("leaps(0, 0, 1001, 0)", () -> x.leaps(0, 0, 1001, 0));
        CHECK.argument("leaps(0, 0, 0, -1)", () -> x.leaps(0, 0, 0, -1));
        CHECK.argument("leaps(0, 0, 0, 1001)", () -> x.leaps(0, 0, 0, 1001));
        CHECK.is("leaps(0, 1000, 1000, 1000)", 4, () -> x.leaps(0, 1000, 1000, 1000));
        CHECK.is("what B and C take too is one", true, () -> x.isLeap(0, 3000));
        CHECK.is("leaps(0, 4, 100, 400)", 1000, () -> x.leaps(0, 4, 100, 400));
        CHECK.is("isLeap(0, 1900)", false, () -> x.isLeap(0, 1900));
        CHECK.is("isLeap(0, 2000)", true, () -> x.isLeap(0, 2000));
        CHECK.is("isLeap(0, 2004)", true, () -> x.isLeap(0, 2004));
        CHECK.is("isLeap(0, 2001)", false, () -> x.isLeap(0, 2001));
        CHECK.is("ofYear(0, 2000, 2): 500 - 20 + 5 LEAP YEARS", 2000 * 366 + 485, () -> x.ofYear(0, 2000, 2));
        CHECK.is("leaps(0, 6, 4, 0)", 4, () -> x.leaps(0, 6, 4, 0));
        CHECK.is("isLeap(0, 6)", true, () -> x.isLeap(0, 6));
        CHECK.is("isLeap(0, 12): 4 takes it", false, () -> x.isLeap(0, 12));
        CHECK.is("isLeap(0, 4): A does not have it", false, () -> x.isLeap(0, 4));
        CHECK.is("ofYear(0, 25, 2): 6, 18", 25 * 366 + 2, () -> x.ofYear(0, 25, 2));
        CHECK.is("leaps(0, 4, 0, 3)", 6, () -> x.leaps(0, 4, 0, 3));
        CHECK.is("without B, C says nothing", true, () -> x.isLeap(0, 4));
        CHECK.is("leaps(0, 0, 7, 7)", 4, () -> x.leaps(0, 0, 7, 7));
        CHECK.is("without A, there are none", false, () -> x.isLeap(0, 0));
        CHECK.is("ofYear(0, 3999, 2) without LEAP YEARS", 3999 * 366, () -> x.ofYear(0, 3999, 2));
        CHECK.is("leaps(0, 0, 0, 0)", 0, () -> x.leaps(0, 0, 0, 0));
    }

    private static void promise5LeapsByCycle() {
        AlmanacRoom x = new AlmanacRoom();
        x.calendar(1, 0);
        x.calendar(2, 0);
        for (int calendar = 0; calendar < 2; calendar++) {
            int k = calendar;
            CHECK.argument("leaps(" + k + ", 0, 0, 0)", () -> x.leaps(k, 0, 0, 0));
            CHECK.argument("leaps(" + k + ", 101, 0, 0)", () -> x.leaps(k, 101, 0, 0));
            CHECK.argument("leaps(" + k + ", 5, -1, 0)", () -> x.leaps(k, 5, -1, 0));
            CHECK.argument("leaps(" + k + ", 5, 6, 0)", () -> x.leaps(k, 5, 6, 0));
            CHECK.argument("leaps(" + k + ", 5, 2, -1)", () -> x.leaps(k, 5, 2, -1));
            CHECK.argument("leaps(" + k + ", 5, 2, 5)", () -> x.leaps(k, 5, 2, 5));
            int before = k == 0 ? 30 : 19;
            CHECK.is("leaps(" + k + ", 100, 0, 99)", before, () -> x.leaps(k, 100, 0, 99));
            CHECK.is("no LEAPS", false, () -> x.isLeap(k, 1));
            CHECK.is("leaps(" + k + ", 1, 1, 0)", 100, () -> x.leaps(k, 1, 1, 0));
            CHECK.is("nothing but LEAPS", true, () -> x.isLeap(k, 3999));
            CHECK.is("leaps(" + k + ", 5, 2, 4)", 1, () -> x.leaps(k, 5, 2, 4));
            String years = "";
            for (int year = 0; year < 10; year++) {
                years += x.isLeap(k, year) ? "1" : "0";
            }
            String got = years;
            CHECK.is("(YEAR * 2 + 4) % 5 < 2 of " + k, "0101001010", () -> got);
        }
        CHECK.is("ofYear(0, 10, 2) with 4 LEAP YEARS", 3544, () -> x.ofYear(0, 10, 2));
        CHECK.is("ofYear(1, 10, 2): 124 MONTHS on", 3661, () -> x.ofYear(1, 10, 2));
    }

    private static void promise6Moon() {
        AlmanacRoom x = new AlmanacRoom();
        x.calendar(2, 10);
        CHECK.argument("moon(-1)", () -> x.moon(-1));
        CHECK.argument("moon(29530588)", () -> x.moon(29530588));
        CHECK.is("a refusal changes nothing", 29, () -> x.ofYear(0, 0, 2));
        CHECK.is("moon(29530587)", 0, () -> x.moon(29530587));
        CHECK.is("YEAR 0 by the new START", 29, () -> x.ofYear(0, 0, 2));
        CHECK.is("moon(10000000)", 29530587, () -> x.moon(10000000));
        CHECK.is("YEAR 0 on its EPOCH", 10, () -> x.ofYear(0, 0, 2));
        CHECK.is("moon(9999999)", 10000000, () -> x.moon(9999999));
        CHECK.is("YEAR 0 a MONTH later", 39, () -> x.ofYear(0, 0, 2));
        CHECK.is("moon(0)", 9999999, () -> x.moon(0));
        CHECK.is("quarter(0, 1)", 7, () -> x.quarter(0, 1));
    }

    private static void promise7Calendars() {
        AlmanacRoom x = new AlmanacRoom();
        for (int many = 0; many < 5; many++) {
            CHECK.is("calendars()", many, () -> x.calendars());
            x.calendar(many % 3, many);
        }
        CHECK.is("calendars()", 5, () -> x.calendars());
        Check.answerOf(() -> x.calendar(0, 0));
        CHECK.is("calendars() behind a refusal", 5, () -> x.calendars());
    }

    private static void promise8IsLeap() {
        AlmanacRoom x = new AlmanacRoom();
        CHECK.outOfBounds("isLeap(0, 0) without calendars", () -> x.isLeap(0, 0));
        x.calendar(0, 0);
        x.calendar(1, 0);
        x.calendar(2, 0);
        CHECK.outOfBounds("isLeap(3, -1)", () -> x.isLeap(3, -1));
        CHECK.outOfBounds("isLeap(-1, 4000)", () -> x.isLeap(-1, 4000));
        CHECK.argument("isLeap(0, -1)", () -> x.isLeap(0, -1));
        CHECK.argument("isLeap(0, 4000)", () -> x.isLeap(0, 4000));
        CHECK.is("isLeap(0, 0)", true, () -> x.isLeap(0, 0));
        CHECK.is("isLeap(0, 100)", true, () -> x.isLeap(0, 100));
        CHECK.is("isLeap(0, 3999)", false, () -> x.isLeap(0, 3999));
        CHECK.is("isLeap(1, 0): 14", false, () -> x.isLeap(1, 0));
        CHECK.is("isLeap(1, 1): 25", false, () -> x.isLeap(1, 1));
        CHECK.is("isLeap(1, 2): 36 % 30 = 6", true, () -> x.isLeap(1, 2));
        CHECK.is("isLeap(1, 32): the CYCLE again", true, () -> x.isLeap(1, 32));
        CHECK.is("isLeap(2, 0): 1", true, () -> x.isLeap(2, 0));
        CHECK.is("isLeap(2, 1): 8", false, () -> x.isLeap(2, 1));
        CHECK.is("isLeap(2, 3): 22 % 19 = 3", true, () -> x.isLeap(2, 3));
        CHECK.is("isLeap(2, 19)", true, () -> x.isLeap(2, 19));
    }

    private static void promise9OfYear() {
        AlmanacRoom x = new AlmanacRoom();
        CHECK.outOfBounds("ofYear(0, 0, 0) without calendars", () -> x.ofYear(0, 0, 0));
        x.calendar(0, 100);
        x.calendar(2, 0);
        CHECK.outOfBounds("ofYear(2, -1, 3)", () -> x.ofYear(2, -1, 3));
        CHECK.outOfBounds("ofYear(-1, 0, 0)", () -> x.ofYear(-1, 0, 0));
        CHECK.argument("ofYear(0, -1, 0)", () -> x.ofYear(0, -1, 0));
        CHECK.argument("ofYear(0, 4000, 0)", () -> x.ofYear(0, 4000, 0));
        CHECK.argument("ofYear(0, 0, -1)", () -> x.ofYear(0, 0, -1));
        CHECK.argument("ofYear(0, 0, 3)", () -> x.ofYear(0, 0, 3));
        CHECK.is("ofYear(0, 0, 0)", 12, () -> x.ofYear(0, 0, 0));
        CHECK.is("ofYear(0, 0, 1)", 367, () -> x.ofYear(0, 0, 1));
        CHECK.is("ofYear(0, 1, 1)", 366, () -> x.ofYear(0, 1, 1));
        CHECK.is("ofYear(0, 0, 2)", 100, () -> x.ofYear(0, 0, 2));
        CHECK.is("ofYear(0, 1, 2)", 467, () -> x.ofYear(0, 1, 2));
        CHECK.is("ofYear(0, 3999, 2)", 100 + 3999 * 366 + 1000, () -> x.ofYear(0, 3999, 2));
        CHECK.is("ofYear(1, 0, 0)", 13, () -> x.ofYear(1, 0, 0));
        CHECK.is("ofYear(1, 1, 0)", 12, () -> x.ofYear(1, 1, 0));
        CHECK.is("ofYear(1, 0, 1): 13 * 29.530588", 383, () -> x.ofYear(1, 0, 1));
        CHECK.is("ofYear(1, 1, 1): 25 * 29.530588 - 383", 355, () -> x.ofYear(1, 1, 1));
        CHECK.is("ofYear(1, 3999, 1): there is a YEAR behind it", 355, () -> x.ofYear(1, 3999, 1));
    }

    private static void promise10Length() {
        AlmanacRoom x = new AlmanacRoom();
        CHECK.outOfBounds("length(0, 0, 0) without calendars", () -> x.length(0, 0, 0));
        x.calendar(0, 0);
        x.calendar(2, 0);
        CHECK.outOfBounds("length(2, -1, -1)", () -> x.length(2, -1, -1));
        CHECK.outOfBounds("length(-1, 0, 0)", () -> x.length(-1, 0, 0));
        CHECK.argument("length(0, -1, 0)", () -> x.length(0, -1, 0));
        CHECK.argument("length(0, 4000, 0)", () -> x.length(0, 4000, 0));
        CHECK.argument("length(0, 0, -1)", () -> x.length(0, 0, -1));
        CHECK.argument("length(0, 0, 12)", () -> x.length(0, 0, 12));
        CHECK.argument("length(1, 0, 13)", () -> x.length(1, 0, 13));
        CHECK.argument("length(1, 1, 12) of no LEAP YEAR", () -> x.length(1, 1, 12));
        CHECK.is("length(0, 0, 11)", 31, () -> x.length(0, 0, 11));
        CHECK.is("length(0, 3999, 11)", 30, () -> x.length(0, 3999, 11));
        CHECK.is("length(1, 0, 0): 0 to 29", 29, () -> x.length(1, 0, 0));
        CHECK.is("length(1, 0, 1): 29 to 59", 30, () -> x.length(1, 0, 1));
        CHECK.is("length(1, 0, 12): 354 to 383", 29, () -> x.length(1, 0, 12));
        CHECK.is("length(1, 1, 11): 708 to 738", 30, () -> x.length(1, 1, 11));
    }

    private static void promise11Day() {
        AlmanacRoom x = new AlmanacRoom();
        CHECK.outOfBounds("day(0, 0, 0, 0) without calendars", () -> x.day(0, 0, 0, 0));
        x.calendar(0, 50);
        x.calendar(2, 0);
        CHECK.outOfBounds("day(2, -1, -1, -1)", () -> x.day(2, -1, -1, -1));
        CHECK.outOfBounds("day(-1, 0, 0, 0)", () -> x.day(-1, 0, 0, 0));
        CHECK.argument("day(0, -1, 0, 0)", () -> x.day(0, -1, 0, 0));
        CHECK.argument("day(0, 4000, 0, 0)", () -> x.day(0, 4000, 0, 0));
        CHECK.argument("day(0, 0, -1, 0)", () -> x.day(0, 0, -1, 0));
        CHECK.argument("day(0, 0, 12, 0)", () -> x.day(0, 0, 12, 0));
        CHECK.argument("day(1, 1, 12, 0)", () -> x.day(1, 1, 12, 0));
        CHECK.argument("day(0, 0, 0, -1)", () -> x.day(0, 0, 0, -1));
        CHECK.argument("day(0, 0, 0, 31)", () -> x.day(0, 0, 0, 31));
        CHECK.argument("day(0, 1, 11, 30) of no LEAP YEAR", () -> x.day(0, 1, 11, 30));
        CHECK.is("day(0, 0, 11, 30) of a LEAP YEAR", 50 + 366, () -> x.day(0, 0, 11, 30));
        CHECK.is("day(0, 0, 0, 0)", 50, () -> x.day(0, 0, 0, 0));
        CHECK.is("day(0, 0, 0, 30)", 80, () -> x.day(0, 0, 0, 30));
        CHECK.is("day(0, 2, 3, 4)", 50 + 367 + 366 + 92 + 4, () -> x.day(0, 2, 3, 4));
        CHECK.is("day(0, 3999, 11, 29)", 50 + 4000 * 366 + 1000 - 1, () -> x.day(0, 3999, 11, 29));
        CHECK.is("day(1, 0, 12, 28)", 382, () -> x.day(1, 0, 12, 28));
        CHECK.argument("day(1, 0, 12, 29)", () -> x.day(1, 0, 12, 29));
        CHECK.is("day(1, 1, 0, 0)", 383, () -> x.day(1, 1, 0, 0));
    }

    private static void promise12Date() {
        AlmanacRoom x = new AlmanacRoom();
        CHECK.outOfBounds("date(0, 0, 0) without calendars", () -> x.date(0, 0, 0));
        x.calendar(0, 50);
        CHECK.outOfBounds("date(1, -1, 4)", () -> x.date(1, -1, 4));
        CHECK.outOfBounds("date(-1, 0, 0)", () -> x.date(-1, 0, 0));
        CHECK.argument("date(0, -1, 0)", () -> x.date(0, -1, 0));
        CHECK.argument("date(0, 3000000, 0)", () -> x.date(0, 3000000, 0));
        CHECK.argument("date(0, 0, -1)", () -> x.date(0, 0, -1));
        CHECK.argument("date(0, 0, 4)", () -> x.date(0, 0, 4));
        is4(x, 0, 50, 0, 0, 0, 0);
        is4(x, 0, 80, 0, 0, 30, 30);
        is4(x, 0, 81, 0, 1, 0, 31);
        is4(x, 0, 416, 0, 11, 30, 366);
        is4(x, 0, 417, 1, 0, 0, 0);
        is4(x, 0, 879, 2, 3, 4, 96);
        x.leapMonth(0, 0);
        is4(x, 0, 81, 0, 0, 31, 31);
        is4(x, 0, 82, 0, 1, 0, 32);
        x.calendar(2, 0);
        is4(x, 1, 28, 0, 0, 28, 28);
        is4(x, 1, 29, 0, 1, 0, 29);
        is4(x, 1, 382, 0, 12, 28, 382);
        is4(x, 1, 383, 1, 0, 0, 0);
        is4(x, 1, 737, 1, 11, 29, 354);
    }

    private static void promise12DateAtTheEnds() {
        AlmanacRoom x = new AlmanacRoom();
        x.calendar(0, 50);
        x.calendar(1, 1000000);
        x.calendar(2, 50);
        is4(x, 0, 49, -1, -1, -1, -1);
        is4(x, 0, 0, -1, -1, -1, -1);
        is4(x, 1, 999999, -1, -1, -1, -1);
        is4(x, 1, 1000000, 0, 0, 0, 0);
        is4(x, 2, 58, -1, -1, -1, -1);
        is4(x, 2, 59, 0, 0, 0, 0);
        int behind = 50 + 4000 * 366 + 1000;
        is4(x, 0, behind - 1, 3999, 11, 29, 365);
        is4(x, 0, behind, -1, -1, -1, -1);
        is4(x, 0, 2999999, -1, -1, -1, -1);
        int last = x.ofYear(2, 3999, 2) + x.ofYear(2, 3999, 1) - 1;
        CHECK.is("the last DAY by the MOON", 3999, () -> x.date(2, last, 0));
        is4(x, 2, last + 1, -1, -1, -1, -1);
    }

    /** A new room for each hundred YEARS: an object is used for at most 512 calls. */
    private static void promise12EachYear() {
        for (int sort = 0; sort < 3; sort++) {
            for (int from = 0; from < 4000; from += 100) {
                AlmanacRoom x = new AlmanacRoom();
                x.calendar(sort, 20);
                for (int y = from; y < from + 100; y++) {
                    int year = y;
                    int start = x.ofYear(0, year, 2);
                    String of = " the DAY on which " + year + " of sort " + sort + " begins";
                    CHECK.is("on" + of, year, () -> x.date(0, start, 0));
                    CHECK.is("ahead of" + of, year - 1, () -> x.date(0, start - 1, 0));
                }
            }
        }
    }

    private static void is4(AlmanacRoom x, int calendar, int day, int... due) {
        for (int what = 0; what < 4; what++) {
            int w = what;
            CHECK.is("date(" + calendar + ", " + day + ", " + w + ")", due[w], () -> x.date(calendar, day, w));
        }
    }
}

/** Promises 18 to 26: the feasts. The YEARS of the first CALENDAR begin on 0, 367, 733, 1099, 1465. */
public final class FeastsTest {
    private static final Check CHECK = new Check();

    public static void main(String[] args) {
        promise18Fixed();
        promise18FixedByMoon();
        promise18FixedOnTheLast();
        promise19Nth();
        promise19NthOfOtherLengths();
        promise19NthOfEachLength();
        promise20By();
        promise20ByMoon();
        promise20ByWeekday();
        promise20ByQuarter();
        promise18To20WithTen();
        promise21Shun();
        promise21ShunEachWeekday();
        promise21ShunGoesOn();
        promise21ShunIntoTheNextYear();
        promise22Feasts();
        promise23Feast();
        promise23FeastBehindChanges();
        promise24On();
        promise24OnTwoYearsAhead();
        promise24OnTwoYearsAheadOfEachSort();
        promise24OnAllTen();
        promise24OnAtTheEnds();
        promise24OnOfOneCalendarAlone();
        promise25Next();
        promise25NextOfMany();
        promise26Meetings();
        promise26MeetingsOfYears();
        CHECK.end("FeastsTest");
    }

    private static AlmanacRoom room() {
        AlmanacRoom x = new AlmanacRoom();
        x.calendar(0, 0);
        return x;
    }

    private static void feastIs(AlmanacRoom x, int feast, int year, int due) {
        CHECK.is("feast(" + feast + ", " + year + ")", due, () -> x.feast(feast, year));
    }

    private static void promise18Fixed() {
        AlmanacRoom y = new AlmanacRoom();
        CHECK.outOfBounds("fixed(0, 0, 0) without calendars", () -> y.fixed(0, 0, 0));
        AlmanacRoom x = room();
        CHECK.outOfBounds("fixed(1, 13, 41)", () -> x.fixed(1, 13, 41));
        CHECK.outOfBounds("fixed(-1, 0, 0)", () -> x.fixed(-1, 0, 0));
        CHECK.argument("fixed(0, -1, 0)", () -> x.fixed(0, -1, 0));
        CHECK.argument("fixed(0, 13, 0)", () -> x.fixed(0, 13, 0));
        CHECK.argument("fixed(0, 0, -1)", () -> x.fixed(0, 0, -1));
        CHECK.argument("fixed(0, 0, 41)", () -> x.fixed(0, 0, 41));
        CHECK.is("fixed(0, 2, 20)", 0, () -> x.fixed(0, 2, 20));
        CHECK.is("fixed(0, 11, 40)", 1, () -> x.fixed(0, 11, 40));
        CHECK.is("fixed(0, 12, 3)", 2, () -> x.fixed(0, 12, 3));
        CHECK.is("fixed(0, 0, 0)", 3, () -> x.fixed(0, 0, 0));
        CHECK.is("fixed(0, 1, 30)", 4, () -> x.fixed(0, 1, 30));
        feastIs(x, 0, 0, 81);
        feastIs(x, 0, 1, 448);
        feastIs(x, 1, 0, 366);
        feastIs(x, 1, 1, 732);
        feastIs(x, 2, 0, 339);
        feastIs(x, 3, 3, 1099);
        feastIs(x, 4, 0, 60);
        x.setMonth(0, 1, 40);
        feastIs(x, 4, 0, 61);
    }

    private static void promise18FixedByMoon() {
        AlmanacRoom x = new AlmanacRoom();
        x.calendar(2, 0);
        x.fixed(0, 12, 40);
        x.fixed(0, 12, 5);
        feastIs(x, 0, 0, 382);
        feastIs(x, 1, 0, 359);
        feastIs(x, 0, 1, 737);
        feastIs(x, 1, 1, 713);
    }

    /** The last DATE that is there, and the first that is not: in the YEARS 0 (a LEAP YEAR), 1 and 3999. */
    private static void promise18FixedOnTheLast() {
        int[][] due = {
            {1, 28, 59, 426, 1464693}, {1, 29, 60, 427, 1464694}, {1, 30, 60, 427, 1464694},
            {0, 30, 30, 397, 1464664}, {0, 31, 30, 397, 1464664},
            {11, 29, 365, 732, 1464999}, {11, 30, 366, 732, 1464999}, {11, 31, 366, 732, 1464999},
            {12, 0, 336, 703, 1464970}, {12, 40, 366, 732, 1464999}};
        AlmanacRoom x = room();
        for (int k = 0; k < due.length; k++) {
            x.fixed(0, due[k][0], due[k][1]);
            feastIs(x, k, 0, due[k][2]);
            feastIs(x, k, 1, due[k][3]);
            feastIs(x, k, 3999, due[k][4]);
        }
        int[][] byMoon = {
            {0, 28, 28, 411}, {0, 29, 28, 412}, {0, 30, 28, 412}, {11, 0, 324, 708},
            {12, 0, 354, 708}, {12, 28, 382, 736}, {12, 29, 382, 737}, {12, 30, 382, 737}};
        AlmanacRoom y = new AlmanacRoom();
        y.calendar(2, 0);
        for (int k = 0; k < byMoon.length; k++) {
            y.fixed(0, byMoon[k][0], byMoon[k][1]);
            feastIs(y, k, 0, byMoon[k][2]);
            feastIs(y, k, 1, byMoon[k][3]);
        }
        AlmanacRoom z = room();
        z.setMonth(0, 11, 40);
        z.fixed(0, 11, 40);
        feastIs(z, 0, 0, 376);
        feastIs(z, 0, 1, 752);
    }

    private static void promise19Nth() {
        AlmanacRoom x = room();
        CHECK.outOfBounds("nth(1, 13, 0, 7)", () -> x.nth(1, 13, 0, 7));
        CHECK.outOfBounds("nth(-1, 0, 1, 0)", () -> x.nth(-1, 0, 1, 0));
        CHECK.argument("nth(0, -1, 1, 0)", () -> x.nth(0, -1, 1, 0));
        CHECK.argument("nth(0, 13, 1, 0)", () -> x.nth(0, 13, 1, 0));
        CHECK.argument("nth(0, 0, 0, 0)", () -> x.nth(0, 0, 0, 0));
        CHECK.argument("nth(0, 0, 6, 0)", () -> x.nth(0, 0, 6, 0));
        CHECK.argument("nth(0, 0, 1, -1)", () -> x.nth(0, 0, 1, -1));
        CHECK.argument("nth(0, 0, 1, 7)", () -> x.nth(0, 0, 1, 7));
        int[][] rules = {{0, 1, 0}, {0, 1, 6}, {0, 4, 0}, {0, 5, 0}, {0, 5, 2}, {0, 5, 3}, {1, 2, 2}, {12, 1, 6}};
        int[] year0 = {0, 6, 21, 28, 30, 24, 44, 342};
        int[] year1 = {371, 370, 392, 392, 394, 395, 408, 706};
        for (int k = 0; k < rules.length; k++) {
            int[] r = rules[k];
            CHECK.is("nth(0, " + r[0] + ", " + r[1] + ", " + r[2] + ")", k, () -> x.nth(0, r[0], r[1], r[2]));
            feastIs(x, k, 0, year0[k]);
            feastIs(x, k, 1, year1[k]);
        }
    }

    private static void promise19NthOfOtherLengths() {
        AlmanacRoom x = room();
        x.nth(0, 0, 3, 6);
        x.nth(0, 0, 4, 0);
        x.nth(0, 0, 3, 5);
        x.nth(0, 0, 5, 0);
        x.setMonth(0, 0, 20);
        feastIs(x, 0, 0, 13);
        feastIs(x, 1, 0, 14);
        feastIs(x, 2, 0, 19);
        feastIs(x, 3, 0, 14);
        x.setMonth(0, 0, 40);
        feastIs(x, 1, 0, 21);
        feastIs(x, 3, 0, 35);
        AlmanacRoom y = new AlmanacRoom();
        y.calendar(2, 0);
        y.nth(0, 12, 1, 3);
        feastIs(y, 0, 0, 360);
        feastIs(y, 0, 1, 710);
    }

    /** Of the MONTH 0, which begins on a WEEKDAY 0: by length the DAYS for the n from 1 to 5. */
    private static void promise19NthOfEachLength() {
        nthOf(20, 5, 5, 12, 19, 19, 19);
        nthOf(20, 6, 6, 13, 13, 13, 13);
        nthOf(21, 6, 6, 13, 20, 20, 20);
        nthOf(27, 5, 5, 12, 19, 26, 26);
        nthOf(27, 6, 6, 13, 20, 20, 20);
        nthOf(28, 0, 0, 7, 14, 21, 21);
        nthOf(28, 6, 6, 13, 20, 27, 27);
        nthOf(29, 0, 0, 7, 14, 21, 28);
        nthOf(29, 1, 1, 8, 15, 22, 22);
        nthOf(35, 0, 0, 7, 14, 21, 28);
        nthOf(35, 6, 6, 13, 20, 27, 34);
        nthOf(36, 0, 0, 7, 14, 21, 35);
        nthOf(36, 1, 1, 8, 15, 22, 29);
        nthOf(40, 4, 4, 11, 18, 25, 39);
        nthOf(40, 5, 5, 12, 19, 26, 33);
    }

    private static void nthOf(int length, int w, int... due) {
        AlmanacRoom x = room();
        x.setMonth(0, 0, length);
        for (int n = 1; n <= 5; n++) {
            int f = x.nth(0, 0, n, w);
            int on = due[n - 1];
            CHECK.is("the " + n + ". WEEKDAY " + w + " of " + length + " DAYS", on, () -> x.feast(f, 0));
        }
    }

    private static void promise20By() {
        AlmanacRoom x = room();
        CHECK.outOfBounds("by(0, 2, 0) without feasts", () -> x.by(0, 2, 0));
        x.fixed(0, 0, 2);
        CHECK.outOfBounds("by(1, 5, -1)", () -> x.by(1, 5, -1));
        CHECK.outOfBounds("by(-1, 2, 0)", () -> x.by(-1, 2, 0));
        CHECK.argument("by(0, 1, 0)", () -> x.by(0, 1, 0));
        CHECK.argument("by(0, 5, 0)", () -> x.by(0, 5, 0));
        CHECK.argument("by(0, 2, -1)", () -> x.by(0, 2, -1));
        CHECK.argument("by(0, 2, 401)", () -> x.by(0, 2, 401));
        CHECK.argument("by(0, 3, -1)", () -> x.by(0, 3, -1));
        CHECK.argument("by(0, 3, 7)", () -> x.by(0, 3, 7));
        CHECK.argument("by(0, 4, -1)", () -> x.by(0, 4, -1));
        CHECK.argument("by(0, 4, 4)", () -> x.by(0, 4, 4));
        CHECK.is("feasts() behind refusals", 1, () -> x.feasts());
        CHECK.is("by(0, 2, 0)", 1, () -> x.by(0, 2, 0));
        CHECK.is("by(0, 2, 400)", 2, () -> x.by(0, 2, 400));
        CHECK.is("by(0, 3, 2)", 3, () -> x.by(0, 3, 2));
        CHECK.is("by(0, 3, 1)", 4, () -> x.by(0, 3, 1));
        CHECK.is("by(0, 3, 6)", 5, () -> x.by(0, 3, 6));
        CHECK.is("by(2, 2, 400)", 6, () -> x.by(2, 2, 400));
        int[] due = {2, 2, 402, 2, 8, 6, 802};
        for (int k = 0; k < due.length; k++) {
            feastIs(x, k, 0, due[k]);
        }
        feastIs(x, 3, 1, 373);
    }

    private static void promise20ByMoon() {
        AlmanacRoom x = room();
        x.calendar(0, 500);
        x.fixed(1, 0, 14);
        x.fixed(0, 0, 14);
        for (int q = 0; q < 4; q++) {
            int number = q;
            CHECK.is("by(1, 4, " + q + ")", q + 2, () -> x.by(1, 4, number));
        }
        int[] due = {514, 14, 29, 36, 14, 22};
        for (int k = 0; k < due.length; k++) {
            feastIs(x, k, 0, due[k]);
        }
        CHECK.is("by(0, 2, 1)", 6, () -> x.by(0, 2, 1));
        feastIs(x, 6, 1, 500 + 367 + 14 + 1);
        x.moon(1000000);
        feastIs(x, 4, 0, 15);
        feastIs(x, 2, 0, 30);
    }

    /** From each WEEKDAY to each: on the FEAST itself or up to 6 DAYS later. */
    private static void promise20ByWeekday() {
        int[][] due = {
            {0, 1, 2, 3, 4, 5, 6}, {7, 1, 2, 3, 4, 5, 6}, {7, 8, 2, 3, 4, 5, 6}, {7, 8, 9, 3, 4, 5, 6},
            {7, 8, 9, 10, 4, 5, 6}, {7, 8, 9, 10, 11, 5, 6}, {7, 8, 9, 10, 11, 12, 6}, {7, 8, 9, 10, 11, 12, 13}};
        for (int day = 0; day < due.length; day++) {
            AlmanacRoom x = room();
            x.fixed(0, 0, day);
            for (int w = 0; w < 7; w++) {
                x.by(0, 3, w);
                feastIs(x, w + 1, 0, due[day][w]);
            }
        }
    }

    /** On the FEAST itself or later: the DAYS around each of the first QUARTERS. */
    private static void promise20ByQuarter() {
        int[][] due = {
            {0, 0, 7, 14, 22}, {1, 29, 7, 14, 22}, {6, 29, 7, 14, 22}, {7, 29, 7, 14, 22}, {8, 29, 36, 14, 22},
            {13, 29, 36, 14, 22}, {14, 29, 36, 14, 22}, {15, 29, 36, 44, 22}, {21, 29, 36, 44, 22},
            {22, 29, 36, 44, 22}, {23, 29, 36, 44, 51}};
        for (int[] of : due) {
            AlmanacRoom x = room();
            x.fixed(0, 0, of[0]);
            for (int q = 0; q < 4; q++) {
                x.by(0, 4, q);
                feastIs(x, q + 1, 0, of[q + 1]);
            }
        }
        AlmanacRoom y = room();
        y.moon(29530587);
        y.fixed(0, 0, 0);
        y.by(0, 4, 0);
        y.by(0, 4, 3);
        feastIs(y, 1, 0, 29);
        feastIs(y, 2, 0, 51);
    }

    private static void promise18To20WithTen() {
        AlmanacRoom x = room();
        for (int k = 0; k < 10; k++) {
            int date = k;
            CHECK.is("the FEAST " + k, k, () -> x.fixed(0, 0, date));
        }
        CHECK.state("an eleventh, fixed", () -> x.fixed(0, 0, 0));
        CHECK.state("an eleventh, nth", () -> x.nth(0, 0, 1, 0));
        CHECK.state("an eleventh, by", () -> x.by(0, 2, 0));
        CHECK.outOfBounds("no CALENDAR ahead of ten, fixed", () -> x.fixed(1, 0, 0));
        CHECK.outOfBounds("no CALENDAR ahead of ten, nth", () -> x.nth(1, 0, 1, 0));
        CHECK.outOfBounds("no FEAST ahead of ten, by", () -> x.by(10, 2, 0));
        CHECK.argument("no MONTH ahead of ten, fixed", () -> x.fixed(0, 13, 0));
        CHECK.argument("no DATE ahead of ten, fixed", () -> x.fixed(0, 0, 41));
        CHECK.argument("no n ahead of ten, nth", () -> x.nth(0, 0, 6, 0));
        CHECK.argument("no WEEKDAY ahead of ten, nth", () -> x.nth(0, 0, 1, 7));
        CHECK.argument("no how ahead of ten, by", () -> x.by(0, 1, 0));
        CHECK.argument("no number ahead of ten, by", () -> x.by(0, 4, 4));
        CHECK.is("feasts() of ten", 10, () -> x.feasts());
        CHECK.is("all ten are on their DAYS", 512, () -> x.on(9));
    }

    private static void promise21Shun() {
        AlmanacRoom x = room();
        CHECK.outOfBounds("shun(0, 0) without feasts", () -> x.shun(0, 0));
        x.fixed(0, 0, 6);
        x.by(0, 2, 1);
        x.by(0, 3, 0);
        CHECK.outOfBounds("shun(3, 7)", () -> x.shun(3, 7));
        CHECK.outOfBounds("shun(-1, 0)", () -> x.shun(-1, 0));
        CHECK.argument("shun(0, -2)", () -> x.shun(0, -2));
        CHECK.argument("shun(0, 7)", () -> x.shun(0, 7));
        CHECK.is("shun(0, 6)", -1, () -> x.shun(0, 6));
        feastIs(x, 0, 0, 7);
        feastIs(x, 1, 0, 8);
        feastIs(x, 2, 0, 7);
        feastIs(x, 0, 1, 373);
        CHECK.is("shun(1, 1)", -1, () -> x.shun(1, 1));
        feastIs(x, 1, 0, 9);
        CHECK.is("shun(2, 0)", -1, () -> x.shun(2, 0));
        feastIs(x, 2, 0, 8);
        CHECK.is("shun(0, 5)", 6, () -> x.shun(0, 5));
        feastIs(x, 0, 0, 6);
        CHECK.is("shun(0, 0)", 5, () -> x.shun(0, 0));
        CHECK.is("shun(0, -1)", 0, () -> x.shun(0, -1));
        CHECK.is("shun(0, -1) again", -1, () -> x.shun(0, -1));
        feastIs(x, 0, 0, 6);
        CHECK.is("on() goes by what is SHUNNED", 4, () -> x.on(8));
    }

    /** One DAY later, from 6 to 0 too, and on the six others not at all. */
    private static void promise21ShunEachWeekday() {
        for (int w = 0; w < 7; w++) {
            AlmanacRoom x = room();
            for (int date = 0; date < 8; date++) {
                x.fixed(0, 0, date);
                x.shun(date, w);
                feastIs(x, date, 0, date % 7 == w ? date + 1 : date);
            }
        }
    }

    /** FEASTS by one that SHUNS go by the DAY on which that is then, and SHUN on their own. */
    private static void promise21ShunGoesOn() {
        AlmanacRoom x = room();
        x.fixed(0, 0, 14);
        x.by(0, 2, 7);
        x.by(0, 3, 0);
        x.by(0, 4, 2);
        x.by(3, 2, 0);
        feastsAre(x, 14, 21, 14, 14, 14);
        x.shun(0, 0);
        feastsAre(x, 15, 22, 21, 44, 44);
        x.shun(1, 1);
        feastsAre(x, 15, 23, 21, 44, 44);
        x.shun(2, 0);
        feastsAre(x, 15, 23, 22, 44, 44);
        x.shun(3, 2);
        feastsAre(x, 15, 23, 22, 45, 45);
        x.shun(4, 3);
        feastsAre(x, 15, 23, 22, 45, 46);
        x.shun(0, -1);
        feastsAre(x, 14, 21, 15, 14, 14);
        CHECK.is("on(14)", 1 + 8 + 16, () -> x.on(14));
        CHECK.is("on(15)", 4, () -> x.on(15));
    }

    private static void feastsAre(AlmanacRoom x, int... due) {
        for (int k = 0; k < due.length; k++) {
            feastIs(x, k, 0, due[k]);
        }
    }

    private static void promise21ShunIntoTheNextYear() {
        AlmanacRoom x = room();
        x.fixed(0, 11, 40);
        x.shun(0, 2);
        feastIs(x, 0, 0, 367);
        CHECK.is("on(366)", 0, () -> x.on(366));
        CHECK.is("on(367), told for the YEAR ahead", 1, () -> x.on(367));
        x.shun(0, 4);
        feastIs(x, 0, 0, 366);
        feastIs(x, 0, 1, 733);
        feastIs(x, 0, 3999, 1465000);
        CHECK.is("on(1464999)", 0, () -> x.on(1464999));
        CHECK.is("on(1465000), behind the YEAR 3999", 0, () -> x.on(1465000));
    }

    private static void promise22Feasts() {
        AlmanacRoom x = room();
        CHECK.is("feasts()", 0, () -> x.feasts());
        x.fixed(0, 0, 0);
        CHECK.is("feasts() behind fixed()", 1, () -> x.feasts());
        x.nth(0, 0, 1, 0);
        CHECK.is("feasts() behind nth()", 2, () -> x.feasts());
        x.by(0, 2, 0);
        CHECK.is("feasts() behind by()", 3, () -> x.feasts());
        x.calendar(0, 0);
        x.shun(0, 0);
        CHECK.is("feasts() behind others", 3, () -> x.feasts());
    }

    private static void promise23Feast() {
        AlmanacRoom x = room();
        CHECK.outOfBounds("feast(0, 0) without feasts", () -> x.feast(0, 0));
        x.calendar(2, 1000);
        x.fixed(0, 11, 40);
        x.fixed(1, 0, 0);
        x.by(0, 2, 400);
        CHECK.outOfBounds("feast(3, -1)", () -> x.feast(3, -1));
        CHECK.outOfBounds("feast(-1, 0)", () -> x.feast(-1, 0));
        CHECK.argument("feast(0, -1)", () -> x.feast(0, -1));
        CHECK.argument("feast(0, 4000)", () -> x.feast(0, 4000));
        feastIs(x, 0, 3999, 4000 * 366 + 1000 - 1);
        feastIs(x, 2, 3999, 4000 * 366 + 1000 + 399);
        feastIs(x, 1, 0, 1004);
        feastIs(x, 1, 1, 1387);
        AlmanacRoom y = new AlmanacRoom();
        y.calendar(0, 1000000);
        for (int month = 0; month < 12; month++) {
            y.setMonth(0, month, 40);
        }
        y.leaps(0, 1, 0, 0);
        y.fixed(0, 11, 40);
        for (int k = 0; k < 9; k++) {
            y.by(k, 2, 400);
        }
        feastIs(y, 0, 3999, 1000000 + 4000 * 481 - 1);
        feastIs(y, 9, 3999, 1000000 + 4000 * 481 - 1 + 3600);
    }

    /** Asked ahead of each change and behind it: what has been told once may not be kept. */
    private static void promise23FeastBehindChanges() {
        AlmanacRoom x = room();
        x.calendar(2, 10);
        x.fixed(0, 2, 0);
        x.by(0, 4, 2);
        x.fixed(1, 1, 0);
        x.nth(0, 11, 5, 0);
        twoYearsAre(x, 61, 428, 73, 428, 59, 442, 364, 728);
        x.setMonth(0, 0, 40);
        twoYearsAre(x, 70, 446, 73, 457, 59, 442, 371, 749);
        x.leapMonth(0, 1);
        twoYearsAre(x, 71, 446, 73, 457, 59, 442, 371, 749);
        x.leaps(0, 0, 0, 0);
        twoYearsAre(x, 70, 445, 73, 457, 59, 442, 371, 749);
        x.leaps(1, 1, 0, 0);
        twoYearsAre(x, 70, 445, 73, 457, 59, 413, 371, 749);
        x.moon(12000000);
        twoYearsAre(x, 70, 445, 85, 469, 41, 395, 371, 749);
        x.shun(0, 0);
        twoYearsAre(x, 71, 445, 85, 469, 41, 395, 371, 749);
    }

    /** By turns the YEARS 0 and 1 of each FEAST, and by on() too. */
    private static void twoYearsAre(AlmanacRoom x, int... due) {
        for (int k = 0; k < due.length; k++) {
            int f = k / 2;
            int day = due[k];
            feastIs(x, f, k % 2, day);
            CHECK.is("on(" + day + ") has the FEAST " + f, 1, () -> x.on(day) >> f & 1);
        }
    }

    private static void promise24On() {
        AlmanacRoom x = room();
        CHECK.argument("on(-1)", () -> x.on(-1));
        CHECK.argument("on(3000000)", () -> x.on(3000000));
        x.calendar(1, 10);
        x.fixed(0, 0, 10);
        x.fixed(1, 0, 0);
        x.fixed(0, 0, 11);
        x.by(1, 2, 1);
        x.fixed(0, 0, 10);
        CHECK.is("on(9)", 0, () -> x.on(9));
        CHECK.is("on(10): 0, 1 and 4", 19, () -> x.on(10));
        CHECK.is("on(11): 2 and 3", 12, () -> x.on(11));
        CHECK.is("on(12)", 0, () -> x.on(12));
        CHECK.is("on(377): the next YEAR of 0", 17, () -> x.on(377));
        CHECK.is("on(364): the next YEAR of 1", 2, () -> x.on(364));
    }

    private static void promise24OnTwoYearsAhead() {
        AlmanacRoom x = room();
        x.fixed(0, 0, 0);
        x.by(0, 2, 400);
        x.by(1, 2, 400);
        x.by(2, 2, 400);
        CHECK.is("on(400), told for the YEAR ahead", 2, () -> x.on(400));
        CHECK.is("on(800), told for two YEARS ahead", 4, () -> x.on(800));
        CHECK.is("on(1200), told for three YEARS ahead", 0, () -> x.on(1200));
        CHECK.is("feast(3, 0) all the same", 1200, () -> x.feast(3, 0));
        CHECK.is("on(767): one of the YEAR 1", 2, () -> x.on(767));
        CHECK.is("on(1167): two of the YEAR 1", 4, () -> x.on(1167));
        for (int from = 1; from < 350; from += 59) {
            int first = from;
            CHECK.is("next(" + first + ", 59): no YEARS ahead of 0", -1, () -> x.next(first, 59));
        }
        CHECK.is("next(401, 60): one YEAR ahead of 1 alone", -1, () -> x.next(401, 60));
        CHECK.is("on(366)", 0, () -> x.on(366));
        CHECK.is("on(367)", 1, () -> x.on(367));
    }

    /** The last DAY of the second YEAR behind the one it is told for, and the first DAY of the third. */
    private static void promise24OnTwoYearsAheadOfEachSort() {
        int[] thirdYear = {1099, 1063, 1092};
        for (int sort = 0; sort < 3; sort++) {
            AlmanacRoom x = new AlmanacRoom();
            x.calendar(sort, 0);
            x.fixed(0, 0, 0);
            x.by(0, 2, 400);
            x.by(1, 2, 400);
            int first = thirdYear[sort];
            x.by(2, 2, first - 1 - 800);
            x.by(2, 2, first - 800);
            String of = ", sort " + sort;
            feastIs(x, 3, 0, first - 1);
            feastIs(x, 4, 0, first);
            CHECK.is("on the last DAY of the YEAR 2" + of, 8, () -> x.on(first - 1));
            CHECK.is("on the first DAY of the YEAR 3, but for the FEAST 0" + of, 1, () -> x.on(first));
            int begins = x.ofYear(0, 1, 2);
            CHECK.is("the YEAR two behind the YEAR 1" + of, 3, () -> x.date(0, begins + 800, 0));
            CHECK.is("told for two YEARS ahead of that" + of, 4, () -> x.on(begins + 800));
            CHECK.is("told for one YEAR ahead" + of, 2, () -> x.on(begins + 400));
        }
    }

    private static void promise24OnAllTen() {
        AlmanacRoom x = room();
        x.calendar(1, 5);
        x.calendar(2, 0);
        for (int k = 0; k < 4; k++) {
            x.fixed(0, 0, 29);
            x.fixed(1, 0, 24);
        }
        x.fixed(2, 1, 0);
        x.by(8, 2, 0);
        CHECK.is("on(28)", 0, () -> x.on(28));
        CHECK.is("on(29): all ten", 1023, () -> x.on(29));
        CHECK.is("on(30)", 0, () -> x.on(30));
        CHECK.is("next(0, 30)", 29, () -> x.next(0, 30));
        CHECK.is("next(0, 29)", -1, () -> x.next(0, 29));
        CHECK.is("meetings(0, 60)", 1, () -> x.meetings(0, 60));
        x.shun(9, 1);
        CHECK.is("on(29) but for the last", 511, () -> x.on(29));
        CHECK.is("on(30): the last alone", 512, () -> x.on(30));
    }

    /** A DAY that is ahead of or behind one CALENDAR, and in the other one. */
    private static void promise24OnOfOneCalendarAlone() {
        AlmanacRoom x = new AlmanacRoom();
        x.calendar(1, 0);
        x.calendar(0, 367);
        x.fixed(1, 0, 0);
        x.fixed(0, 0, 12);
        x.by(1, 2, 1);
        CHECK.is("on(366): ahead of the CALENDAR 1, and the other has its 12", 2, () -> x.on(366));
        CHECK.is("on(367): the CALENDAR 1 begins", 1 + 4, () -> x.on(367));
        int end = 1417466;
        CHECK.is("date() of the CALENDAR 0 tells -1", -1, () -> x.date(0, end, 0));
        int year = x.date(1, end, 0);
        int begins = x.ofYear(1, year + 1, 2);
        CHECK.is("on a DAY behind the CALENDAR 0", 1, () -> x.on(begins));
        int last = x.feast(1, 3999);
        CHECK.is("the last one of the CALENDAR 0", true, () -> (x.on(last) & 2) != 0);
    }

    private static void promise24OnAtTheEnds() {
        AlmanacRoom x = room();
        x.fixed(0, 11, 40);
        x.by(0, 2, 1);
        int last = 4000 * 366 + 1000 - 1;
        CHECK.is("on the last DAY of the last YEAR", 1, () -> x.on(last));
        CHECK.is("on the first DAY behind it, date() tells -1", 0, () -> x.on(last + 1));
        CHECK.is("on(2999999)", 0, () -> x.on(2999999));
        CHECK.is("on the first DAY of the last YEAR", 2, () -> x.on(last - 365));
        AlmanacRoom y = new AlmanacRoom();
        y.calendar(0, 1000);
        y.fixed(0, 0, 0);
        CHECK.is("on(999) ahead of the EPOCH", 0, () -> y.on(999));
        CHECK.is("on(1000)", 1, () -> y.on(1000));
    }

    private static void promise25Next() {
        AlmanacRoom x = room();
        CHECK.argument("next(0, 0)", () -> x.next(0, 0));
        CHECK.argument("next(0, 61)", () -> x.next(0, 61));
        CHECK.argument("next(-1, 1)", () -> x.next(-1, 1));
        CHECK.argument("next(3000000, 1)", () -> x.next(3000000, 1));
        CHECK.argument("next(2999999, 2)", () -> x.next(2999999, 2));
        CHECK.argument("next(MAX, 60)", () -> x.next(Integer.MAX_VALUE, 60));
        CHECK.is("next(0, 60) without feasts", -1, () -> x.next(0, 60));
        x.fixed(0, 2, 0);
        x.fixed(0, 2, 9);
        CHECK.is("next(2, 59): up to 60", -1, () -> x.next(2, 59));
        CHECK.is("next(2, 60): up to 61", 61, () -> x.next(2, 60));
        CHECK.is("next(61, 1)", 61, () -> x.next(61, 1));
        CHECK.is("next(62, 60)", 70, () -> x.next(62, 60));
        CHECK.is("next(71, 60)", -1, () -> x.next(71, 60));
        CHECK.is("next(2999940, 60)", -1, () -> x.next(2999940, 60));
        CHECK.is("next(2999999, 1)", -1, () -> x.next(2999999, 1));
    }

    /** The first DAY of many, wherever it stands among the FEASTS' numbers. */
    private static void promise25NextOfMany() {
        AlmanacRoom x = room();
        x.fixed(0, 0, 20);
        x.fixed(0, 0, 5);
        x.fixed(0, 0, 12);
        x.by(0, 2, 347);
        int[][] due = {{0, 60, 5}, {5, 1, 5}, {6, 60, 12}, {6, 6, -1}, {6, 7, 12}, {12, 60, 12}, {13, 60, 20},
            {20, 1, 20}, {21, 60, -1}, {307, 60, -1}, {308, 60, 367}, {367, 60, 367}, {368, 60, 372}};
        for (int[] of : due) {
            CHECK.is("next(" + of[0] + ", " + of[1] + ")", of[2], () -> x.next(of[0], of[1]));
        }
    }

    /** FEASTS told for two YEARS MEET as well; one FEAST by itself does not. */
    private static void promise26MeetingsOfYears() {
        AlmanacRoom x = room();
        x.fixed(0, 0, 0);
        x.by(0, 2, 367);
        CHECK.is("on(367), told for 0 and 1", 3, () -> x.on(367));
        CHECK.is("meetings(367, 1)", 1, () -> x.meetings(367, 1));
        CHECK.is("meetings(307, 60): up to 366", 0, () -> x.meetings(307, 60));
        CHECK.is("meetings(308, 60): up to 367", 1, () -> x.meetings(308, 60));
        CHECK.is("meetings(368, 60)", 0, () -> x.meetings(368, 60));
        CHECK.is("meetings(0, 60): one on 0", 0, () -> x.meetings(0, 60));
        for (int date = 1; date < 5; date++) {
            x.fixed(0, 0, date * 7);
            x.fixed(0, 0, date * 7);
        }
        CHECK.is("meetings(0, 60): 7, 14, 21 and 28", 4, () -> x.meetings(0, 60));
        CHECK.is("meetings(7, 22): from the first to the last of them", 4, () -> x.meetings(7, 22));
        CHECK.is("meetings(8, 20): but for both", 2, () -> x.meetings(8, 20));
    }

    private static void promise26Meetings() {
        AlmanacRoom x = room();
        CHECK.argument("meetings(0, 0)", () -> x.meetings(0, 0));
        CHECK.argument("meetings(0, 61)", () -> x.meetings(0, 61));
        CHECK.argument("meetings(-1, 1)", () -> x.meetings(-1, 1));
        CHECK.argument("meetings(3000000, 1)", () -> x.meetings(3000000, 1));
        CHECK.argument("meetings(2999999, 2)", () -> x.meetings(2999999, 2));
        CHECK.is("meetings(2999940, 60)", 0, () -> x.meetings(2999940, 60));
        x.fixed(0, 0, 5);
        x.fixed(0, 0, 5);
        x.fixed(0, 0, 5);
        x.fixed(0, 0, 9);
        x.fixed(0, 0, 20);
        CHECK.is("meetings(0, 60): three on 5", 1, () -> x.meetings(0, 60));
        x.by(4, 2, 0);
        CHECK.is("meetings(0, 60) with 20", 2, () -> x.meetings(0, 60));
        CHECK.is("meetings(0, 20)", 1, () -> x.meetings(0, 20));
        CHECK.is("meetings(0, 21)", 2, () -> x.meetings(0, 21));
        CHECK.is("meetings(6, 15)", 1, () -> x.meetings(6, 15));
        CHECK.is("meetings(5, 1)", 1, () -> x.meetings(5, 1));
        CHECK.is("meetings(9, 1): one alone", 0, () -> x.meetings(9, 1));
        x.calendar(0, 9);
        x.fixed(1, 0, 0);
        CHECK.is("meetings(9, 1) of two CALENDARS", 1, () -> x.meetings(9, 1));
    }
}

/** Promises 27 to 30: what would be. */
public final class WouldBeTest {
    private static final Check CHECK = new Check();

    public static void main(String[] args) {
        promise27Drift();
        promise27DriftAtTheEnds();
        promise28BeginsWith();
        promise28BeginsAsLaid();
        promise29Wander();
        promise29WanderAside();
        promise29WanderOfDays();
        promise29WanderOverMonths();
        promise30Digest();
        promise30DigestOfOneOfEach();
        promise30DigestOfAll();
        nothingIsChanged();
        CHECK.end("WouldBeTest");
    }

    private static void promise27Drift() {
        AlmanacRoom x = new AlmanacRoom();
        CHECK.outOfBounds("drift(0, 0, 0) without calendars", () -> x.drift(0, 0, 0));
        x.calendar(0, 0);
        x.calendar(0, 100);
        x.calendar(1, 0);
        CHECK.outOfBounds("drift(3, 0, -1)", () -> x.drift(3, 0, -1));
        CHECK.outOfBounds("drift(0, 3, -1)", () -> x.drift(0, 3, -1));
        CHECK.outOfBounds("drift(-1, 0, 0)", () -> x.drift(-1, 0, 0));
        CHECK.outOfBounds("drift(0, -1, 0)", () -> x.drift(0, -1, 0));
        CHECK.argument("drift(0, 1, -1)", () -> x.drift(0, 1, -1));
        CHECK.argument("drift(0, 1, 4000)", () -> x.drift(0, 1, 4000));
        CHECK.is("drift(0, 1, 0): ahead of the other's YEAR 0", -1, () -> x.drift(0, 1, 0));
        CHECK.is("drift(1, 0, 0)", 100, () -> x.drift(1, 0, 0));
        CHECK.is("drift(0, 1, 1): 367 - 100", 267, () -> x.drift(0, 1, 1));
        CHECK.is("drift(1, 0, 1)", 100, () -> x.drift(1, 0, 1));
        CHECK.is("drift(0, 0, 77)", 0, () -> x.drift(0, 0, 77));
        CHECK.is("drift(2, 0, 1): 354", 354, () -> x.drift(2, 0, 1));
        CHECK.is("drift(0, 2, 1): 367 - 354", 13, () -> x.drift(0, 2, 1));
        CHECK.is("drift(0, 2, 3999): behind the other's YEAR 3999", -1, () -> x.drift(0, 2, 3999));
    }

    /** A DAY ahead of the other's first one, on it and behind it; on the other's last DAY and behind that. */
    private static void promise27DriftAtTheEnds() {
        int[][] due = {{99, -1}, {100, 0}, {101, 1}, {100 + 239, 239}, {100 + 240, 0},
            {100 + 959999, 239}, {100 + 960000, -1}, {1000000, -1}};
        for (int[] of : due) {
            AlmanacRoom x = new AlmanacRoom();
            x.calendar(0, 100);
            x.leaps(0, 0, 0, 0);
            for (int month = 0; month < 12; month++) {
                x.setMonth(0, month, 20);
            }
            x.calendar(0, of[0]);
            CHECK.is("drift(1, 0, 0) of one that begins on " + of[0], of[1], () -> x.drift(1, 0, 0));
            CHECK.is("drift(1, 1, 0) of the same", 0, () -> x.drift(1, 1, 0));
            CHECK.is("drift(1, 1, 3999) of the same", 0, () -> x.drift(1, 1, 3999));
        }
        AlmanacRoom y = new AlmanacRoom();
        y.calendar(2, 29);
        y.calendar(0, 28);
        y.calendar(0, 29);
        CHECK.is("drift(1, 0, 0): a DAY ahead of the first MONTH by the MOON", -1, () -> y.drift(1, 0, 0));
        CHECK.is("drift(2, 0, 0): on its first DAY", 0, () -> y.drift(2, 0, 0));
        CHECK.is("drift(0, 1, 0)", 1, () -> y.drift(0, 1, 0));
    }

    private static void promise28BeginsWith() {
        AlmanacRoom x = new AlmanacRoom();
        CHECK.outOfBounds("beginsWith(0, ..) without calendars", () -> x.beginsWith(0, 4, 0, 0, 0));
        x.calendar(0, 7);
        x.calendar(1, 0);
        x.calendar(2, 0);
        CHECK.outOfBounds("beginsWith(3, -1, 0, 0, -1)", () -> x.beginsWith(3, -1, 0, 0, -1));
        CHECK.outOfBounds("beginsWith(-1, 4, 0, 0, 0)", () -> x.beginsWith(-1, 4, 0, 0, 0));
        CHECK.argument("beginsWith(0, -1, 0, 0, 0)", () -> x.beginsWith(0, -1, 0, 0, 0));
        CHECK.argument("beginsWith(0, 1001, 0, 0, 0)", () -> x.beginsWith(0, 1001, 0, 0, 0));
        CHECK.argument("beginsWith(0, 0, 1001, 0, 0)", () -> x.beginsWith(0, 0, 1001, 0, 0));
        CHECK.argument("beginsWith(0, 0, 0, 1001, 0)", () -> x.beginsWith(0, 0, 0, 1001, 0));
        CHECK.argument("beginsWith(1, 0, 0, 0, 0)", () -> x.beginsWith(1, 0, 0, 0, 0));
        CHECK.argument("beginsWith(2, 101, 0, 0, 0)", () -> x.beginsWith(2, 101, 0, 0, 0));
        CHECK.argument("beginsWith(1, 5, 6, 0, 0)", () -> x.beginsWith(1, 5, 6, 0, 0));
        CHECK.argument("beginsWith(2, 5, 5, 5, 0)", () -> x.beginsWith(2, 5, 5, 5, 0));
        CHECK.argument("beginsWith(0, 4, 0, 0, -1)", () -> x.beginsWith(0, 4, 0, 0, -1));
        CHECK.argument("beginsWith(0, 4, 0, 0, 4000)", () -> x.beginsWith(0, 4, 0, 0, 4000));
        CHECK.is("beginsWith(0, 1, 0, 0, 0)", 7, () -> x.beginsWith(0, 1, 0, 0, 0));
        CHECK.is("beginsWith(0, 1, 0, 0, 10)", 7 + 3670, () -> x.beginsWith(0, 1, 0, 0, 10));
        CHECK.is("beginsWith(0, 0, 0, 0, 10)", 7 + 3660, () -> x.beginsWith(0, 0, 0, 0, 10));
        CHECK.is("beginsWith(0, 2, 3, 4, 13): 0 2 4 8 10 12", 7 + 13 * 366 + 6, () -> x.beginsWith(0, 2, 3, 4, 13));
        CHECK.is("beginsWith(0, 4, 100, 400, 401)", 7 + 401 * 366 + 98, () -> x.beginsWith(0, 4, 100, 400, 401));
        CHECK.is("beginsWith(1, 5, 2, 4, 10)", 3544, () -> x.beginsWith(1, 5, 2, 4, 10));
        CHECK.is("beginsWith(2, 5, 2, 4, 10)", 3661, () -> x.beginsWith(2, 5, 2, 4, 10));
        CHECK.is("beginsWith(2, 1, 1, 0, 1)", 383, () -> x.beginsWith(2, 1, 1, 0, 1));
        CHECK.is("the rule is as before", 7 + 10 * 366 + 3, () -> x.ofYear(0, 10, 2));
        CHECK.is("the CYCLE is as before", 30, () -> x.leaps(1, 30, 11, 14));
    }

    /** What beginsWith() tells is what ofYear() tells as soon as leaps() has put that rule in its place. */
    private static void promise28BeginsAsLaid() {
        int[][][] rules = {
            {{4, 0, 0}, {0, 0, 0}, {1, 0, 0}, {4, 100, 400}, {6, 4, 9}, {1000, 999, 997}, {1000, 1000, 1000},
                {1, 1, 1}},
            {{30, 11, 14}, {1, 0, 0}, {1, 1, 0}, {100, 100, 99}, {100, 1, 99}, {19, 7, 18}, {2, 1, 1}, {7, 0, 6}}};
        int[] years = {0, 1, 2, 18, 19, 99, 100, 101, 999, 1000, 3998, 3999};
        for (int sort = 0; sort < 3; sort++) {
            for (int[] rule : rules[Math.min(sort, 1)]) {
                AlmanacRoom x = new AlmanacRoom();
                x.calendar(sort, 5000);
                int[] told = new int[years.length];
                for (int k = 0; k < years.length; k++) {
                    told[k] = x.beginsWith(0, rule[0], rule[1], rule[2], years[k]);
                }
                x.leaps(0, rule[0], rule[1], rule[2]);
                for (int k = 0; k < years.length; k++) {
                    int year = years[k];
                    int due = told[k];
                    CHECK.is("ofYear(0, " + year + ", 2) of sort " + sort, due, () -> x.ofYear(0, year, 2));
                }
            }
        }
    }

    private static void promise29Wander() {
        AlmanacRoom x = new AlmanacRoom();
        CHECK.outOfBounds("wander(0, 0, 1) without feasts", () -> x.wander(0, 0, 1));
        x.calendar(0, 0);
        x.fixed(0, 11, 40);
        x.nth(0, 0, 1, 0);
        CHECK.outOfBounds("wander(2, -1, 0)", () -> x.wander(2, -1, 0));
        CHECK.outOfBounds("wander(-1, 0, 1)", () -> x.wander(-1, 0, 1));
        CHECK.argument("wander(0, -1, 1)", () -> x.wander(0, -1, 1));
        CHECK.argument("wander(0, 4000, 1)", () -> x.wander(0, 4000, 1));
        CHECK.argument("wander(0, 0, 0)", () -> x.wander(0, 0, 0));
        CHECK.argument("wander(0, 0, 61)", () -> x.wander(0, 0, 61));
        CHECK.argument("wander(0, 3941, 60)", () -> x.wander(0, 3941, 60));
        CHECK.argument("wander(0, MAX, MAX)", () -> x.wander(0, Integer.MAX_VALUE, Integer.MAX_VALUE));
        CHECK.is("wander(0, 3940, 60)", 1, () -> x.wander(0, 3940, 60));
        CHECK.is("wander(0, 1, 3): 365 each", 0, () -> x.wander(0, 1, 3));
        CHECK.is("wander(0, 1, 4): 366 in the YEAR 4", 1, () -> x.wander(0, 1, 4));
        CHECK.is("wander(0, 0, 1)", 0, () -> x.wander(0, 0, 1));
        CHECK.is("wander(1, 0, 3): 0, 4, 2", 4, () -> x.wander(1, 0, 3));
        CHECK.is("wander(1, 1, 2)", 2, () -> x.wander(1, 1, 2));
    }

    private static void promise29WanderAside() {
        AlmanacRoom x = new AlmanacRoom();
        x.calendar(0, 0);
        x.fixed(0, 11, 29);
        x.by(0, 2, 1);
        x.by(1, 2, 1);
        CHECK.is("wander(1, 0, 60): in a LEAP YEAR alone", 0, () -> x.wander(1, 0, 60));
        CHECK.is("wander(1, 1, 3): always in another YEAR", -1, () -> x.wander(1, 1, 3));
        CHECK.is("wander(1, 1, 4)", 0, () -> x.wander(1, 1, 4));
        CHECK.is("wander(2, 0, 60)", -1, () -> x.wander(2, 0, 60));
        CHECK.is("wander(2, 3999, 1): date() tells -1", -1, () -> x.wander(2, 3999, 1));
        x.fixed(0, 11, 26);
        x.by(3, 3, 0);
        CHECK.is("feast(4, 0): 364 on", 364, () -> x.feast(4, 0));
        CHECK.is("feast(4, 1): 729 on", 735, () -> x.feast(4, 1));
        CHECK.is("feast(4, 2): 1095 on", 1099, () -> x.feast(4, 2));
        CHECK.is("feast(4, 3): 1461 on", 1463, () -> x.feast(4, 3));
        CHECK.is("wander(4, 0, 3): the YEAR 0 alone", 0, () -> x.wander(4, 0, 3));
        CHECK.is("wander(4, 1, 2)", -1, () -> x.wander(4, 1, 2));
        CHECK.is("wander(4, 0, 4): 364 and 364", 0, () -> x.wander(4, 0, 4));
    }

    /** The first and the last of so many YEARS count, those ahead of and behind them do not. */
    private static void promise29WanderOfDays() {
        AlmanacRoom x = new AlmanacRoom();
        x.calendar(0, 0);
        x.leaps(0, 1000, 0, 0);
        x.fixed(0, 11, 40);
        CHECK.is("wander(0, 1, 60): none of them a LEAP YEAR", 0, () -> x.wander(0, 1, 60));
        CHECK.is("wander(0, 0, 60): the first one", 1, () -> x.wander(0, 0, 60));
        CHECK.is("wander(0, 940, 60): up to 999", 0, () -> x.wander(0, 940, 60));
        CHECK.is("wander(0, 941, 60): the last one is 1000", 1, () -> x.wander(0, 941, 60));
        CHECK.is("wander(0, 1000, 1): that alone", 0, () -> x.wander(0, 1000, 1));
        CHECK.is("wander(0, 3999, 1)", 0, () -> x.wander(0, 3999, 1));
        x.fixed(0, 0, 0);
        CHECK.is("wander(1, 0, 60): the number is 0 in each", 0, () -> x.wander(1, 0, 60));
        x.by(1, 2, 366);
        CHECK.is("feast(2, 0): the last DAY of a LEAP YEAR", 366, () -> x.feast(2, 0));
        CHECK.is("wander(2, 0, 60): in its YEAR once", 0, () -> x.wander(2, 0, 60));
        CHECK.is("wander(2, 1, 60): never", -1, () -> x.wander(2, 1, 60));
        CHECK.is("wander(2, 3999, 1): behind the YEAR 3999", -1, () -> x.wander(2, 3999, 1));
        x.by(1, 2, 365);
        CHECK.is("wander(3, 3999, 1): on its last DAY", 0, () -> x.wander(3, 3999, 1));
        x.shun(3, 2);
        CHECK.is("feast(3, 3999) is SHUNNED into no YEAR", 3999 * 366 + 4 + 366, () -> x.feast(3, 3999));
        CHECK.is("wander(3, 3999, 1) of that", -1, () -> x.wander(3, 3999, 1));
        CHECK.is("wander(3, 3998, 2): 3998 alone", 0, () -> x.wander(3, 3998, 2));
    }

    /** The number in the YEAR, not the DATE in the MONTH: 30 and later is in the next MONTH. */
    private static void promise29WanderOverMonths() {
        AlmanacRoom x = new AlmanacRoom();
        x.calendar(0, 0);
        x.fixed(0, 0, 30);
        x.by(0, 3, 0);
        CHECK.is("wander(1, 0, 2): 35, 32", 3, () -> x.wander(1, 0, 2));
        CHECK.is("wander(1, 0, 3): 35, 32, 30", 5, () -> x.wander(1, 0, 3));
        CHECK.is("wander(1, 1, 2): 32, 30", 2, () -> x.wander(1, 1, 2));
        CHECK.is("wander(1, 4, 2): 33, 30", 3, () -> x.wander(1, 4, 2));
    }

    /** The numbers are those of a third program, which wraps around by hand. */
    private static void promise30DigestOfOneOfEach() {
        AlmanacRoom x = new AlmanacRoom();
        x.calendar(0, 1000);
        x.calendar(1, 2000);
        x.calendar(2, 1500);
        x.calendar(0, 1000000);
        x.calendar(2, 1000000);
        x.fixed(0, 2, 20);
        x.nth(1, 11, 5, 3);
        x.by(0, 4, 2);
        x.by(2, 3, 0);
        x.by(3, 2, 400);
        x.fixed(2, 12, 40);
        x.nth(3, 0, 4, 6);
        x.by(6, 2, 0);
        x.fixed(4, 0, 0);
        x.by(8, 4, 3);
        CHECK.is("digest() of five and ten", 3202007266003320170L, () -> x.digest());
        x.moon(29530587);
        CHECK.is("digest() by another START", -6468635341786856021L, () -> x.digest());
    }

    private static void promise30Digest() {
        AlmanacRoom x = new AlmanacRoom();
        CHECK.is("digest() of a new room", 1734513203L, () -> x.digest());
        x.moon(1);
        CHECK.is("digest() with START 1", 1734513202L, () -> x.digest());
        AlmanacRoom y = new AlmanacRoom();
        y.calendar(0, 0);
        y.fixed(0, 0, 0);
        int[] numbers = {
            1, 1,
            1, 12, 367, 0,
            0, 12, 366, 367,
            0, 12, 366, 36259,
            1, 12, 367, 146500,
            273, 0, 13, 13,
            1993, 2, 2, 63,
            3370, 9, 29, 304,
            3864640,
            367, 733, 18313};
        CHECK.is("digest() of a calendar and a feast", digestOf(numbers), () -> y.digest());
    }

    private static long digestOf(int[] numbers) {
        long d = 58093;
        for (int v : numbers) {
            d = d * 31 + v;
        }
        return d;
    }

    private static void promise30DigestOfAll() {
        AlmanacRoom x = new AlmanacRoom();
        PlainRoom plain = new PlainRoom();
        for (int k = 0; k < 5; k++) {
            x.calendar(k % 3, k * 200000);
            plain.calendar(k % 3, k * 200000);
            CHECK.is("digest() of " + k + " calendars", plain.digest(), () -> x.digest());
        }
        for (int k = 0; k < 10; k++) {
            x.nth(k % 5, k, 1 + k % 5, k % 7);
            plain.nth(k % 5, k, 1 + k % 5, k % 7);
            CHECK.is("digest() of " + k + " feasts", plain.digest(), () -> x.digest());
        }
    }

    private static void nothingIsChanged() {
        AlmanacRoom x = new AlmanacRoom();
        x.calendar(0, 0);
        x.calendar(2, 90000);
        x.fixed(0, 0, 5);
        x.by(0, 4, 2);
        long before = x.digest();
        CHECK.is("digest() again", before, () -> x.digest());
        x.drift(0, 1, 500);
        x.beginsWith(0, 7, 0, 0, 500);
        x.beginsWith(1, 7, 3, 2, 500);
        x.wander(1, 0, 60);
        x.next(0, 60);
        x.meetings(0, 60);
        Check.answerOf(() -> x.setMonth(0, 0, 41));
        Check.answerOf(() -> x.setMonth(1, 0, 30));
        Check.answerOf(() -> x.leapMonth(0, 12));
        Check.answerOf(() -> x.leaps(0, 5, 0, 1001));
        Check.answerOf(() -> x.leaps(1, 5, 2, 5));
        Check.answerOf(() -> x.moon(29530588));
        Check.answerOf(() -> x.shun(0, 7));
        Check.answerOf(() -> x.by(0, 2, 401));
        CHECK.is("digest() behind questions and refusals", before, () -> x.digest());
    }
}

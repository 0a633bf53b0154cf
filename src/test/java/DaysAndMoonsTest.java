/** Promises 13 to 17: days and moons. */
public final class DaysAndMoonsTest {
    private static final Check CHECK = new Check();

    public static void main(String[] args) {
        promise13Weekday();
        promise14Age();
        promise15Quarter();
        promise14AgeComesRound();
        promise15QuarterByStart();
        promise15QuarterOnTheStroke();
        promise16Quarters();
        promise16QuartersOfEachDay();
        promise17MeanYear();
        CHECK.end("DaysAndMoonsTest");
    }

    private static void promise13Weekday() {
        AlmanacRoom x = new AlmanacRoom();
        CHECK.argument("weekday(-1)", () -> x.weekday(-1));
        CHECK.argument("weekday(3000000)", () -> x.weekday(3000000));
        for (int day = 0; day < 8; day++) {
            int d = day;
            CHECK.is("weekday(" + d + ")", d == 7 ? 0 : d, () -> x.weekday(d));
        }
        CHECK.is("weekday(2999999)", 2, () -> x.weekday(2999999));
    }

    private static void promise14Age() {
        AlmanacRoom x = new AlmanacRoom();
        CHECK.argument("age(-1)", () -> x.age(-1));
        CHECK.argument("age(3000000)", () -> x.age(3000000));
        CHECK.is("age(0)", 0, () -> x.age(0));
        CHECK.is("age(29)", 29000000, () -> x.age(29));
        CHECK.is("age(30)", 469412, () -> x.age(30));
        CHECK.is("age(2999999)", 16095668, () -> x.age(2999999));
        x.moon(29530587);
        CHECK.is("age(0), START 29530587", 1, () -> x.age(0));
        CHECK.is("age(2999999), START 29530587", 16095669, () -> x.age(2999999));
        x.moon(1);
        CHECK.is("age(0), START 1", 29530587, () -> x.age(0));
        CHECK.is("age(1), START 1", 999999, () -> x.age(1));
    }

    /** It is 0 where a DAY begins with a NEW MOON, and comes round behind 29530587. */
    private static void promise14AgeComesRound() {
        AlmanacRoom x = new AlmanacRoom();
        x.moon(5000000);
        CHECK.is("age(5), NEW as it begins", 0, () -> x.age(5));
        CHECK.is("age(4), a DAY ahead", 28530588, () -> x.age(4));
        CHECK.is("age(6), a DAY behind", 1000000, () -> x.age(6));
        x.moon(4999999);
        CHECK.is("age(5), NEW a millionth ahead", 1, () -> x.age(5));
        x.moon(5000001);
        CHECK.is("age(5), NEW a millionth behind", 29530587, () -> x.age(5));
        x.moon(16095668);
        CHECK.is("age(2999999), NEW as it begins", 0, () -> x.age(2999999));
        x.moon(16095667);
        CHECK.is("age(2999999), NEW a millionth ahead", 1, () -> x.age(2999999));
        x.moon(16095669);
        CHECK.is("age(2999999), NEW a millionth behind", 29530587, () -> x.age(2999999));
    }

    private static void promise15Quarter() {
        AlmanacRoom x = new AlmanacRoom();
        CHECK.argument("quarter(-1, 0)", () -> x.quarter(-1, 0));
        CHECK.argument("quarter(3000000, 0)", () -> x.quarter(3000000, 0));
        CHECK.argument("quarter(0, -1)", () -> x.quarter(0, -1));
        CHECK.argument("quarter(0, 4)", () -> x.quarter(0, 4));
        int[][] due = {{0, 29, 59, 88}, {7, 36, 66, 95}, {14, 44, 73, 103}, {22, 51, 81, 110}};
        for (int quarter = 0; quarter < 4; quarter++) {
            int q = quarter;
            CHECK.is("quarter(0, " + q + ")", due[q][0], () -> x.quarter(0, q));
            for (int round = 0; round < 4; round++) {
                int on = due[q][round];
                CHECK.is("quarter(" + on + ", " + q + ") on it", on, () -> x.quarter(on, q));
                if (round < 3) {
                    int later = due[q][round + 1];
                    CHECK.is("quarter(" + (on + 1) + ", " + q + ") later", later, () -> x.quarter(on + 1, q));
                }
            }
        }
        int[] last = {3000012, 3000019, 3000027, 3000005};
        for (int quarter = 0; quarter < 4; quarter++) {
            int q = quarter;
            CHECK.is("quarter(2999999, " + q + ") is told all the same", last[q], () -> x.quarter(2999999, q));
        }
    }

    private static void promise15QuarterByStart() {
        AlmanacRoom x = new AlmanacRoom();
        x.moon(29530587);
        CHECK.is("there is no NEW one ahead of START", 29, () -> x.quarter(0, 0));
        CHECK.is("nor a FIRST one: 36.913234", 36, () -> x.quarter(0, 1));
        CHECK.is("nor a FULL one: 44.295881", 44, () -> x.quarter(0, 2));
        CHECK.is("nor a LAST one: 51.678528", 51, () -> x.quarter(0, 3));
        x.moon(5000000);
        CHECK.is("on the beginning of the DAY", 5, () -> x.quarter(5, 0));
        CHECK.is("behind it", 34, () -> x.quarter(6, 0));
        x.moon(4999999);
        CHECK.is("at the end of the DAY ahead", 4, () -> x.quarter(4, 0));
        CHECK.is("so not on this one: 34.530587", 34, () -> x.quarter(5, 0));
        x.moon(852059);
        CHECK.is("three QUARTERS behind it are 23.000000", 23, () -> x.quarter(0, 3));
        x.moon(852058);
        CHECK.is("three QUARTERS behind it are 22.999999", 22, () -> x.quarter(0, 3));
    }

    /** A QUARTER that is just when a DAY begins, or a millionth ahead, 0 to 101590 ROUNDS behind START. */
    private static void promise15QuarterOnTheStroke() {
        int[][] starts = {
            {23, 23000000, 15617353, 8234706, 852059},
            {1500000, 23313128, 15930481, 8547834, 1165187},
            {2999999, 16095668, 8713021, 1330374, 23478315}};
        for (int[] of : starts) {
            int day = of[0];
            for (int quarter = 0; quarter < 4; quarter++) {
                int q = quarter;
                AlmanacRoom x = new AlmanacRoom();
                String told = " of " + day + ", QUARTER " + q;
                x.moon(of[q + 1]);
                CHECK.is("the first from the DAY ahead" + told, day, () -> x.quarter(day - 1, q));
                CHECK.is("the first from the DAY" + told, day, () -> x.quarter(day, q));
                CHECK.is("none on the DAY ahead" + told, 0, () -> x.quarters(day - 1, day, q));
                x.moon(of[q + 1] - 1);
                CHECK.is("ahead: the first from the DAY ahead" + told, day - 1, () -> x.quarter(day - 1, q));
                CHECK.is("ahead: the first from the DAY" + told, day + 29, () -> x.quarter(day, q));
                CHECK.is("ahead: one on the DAY ahead" + told, 1, () -> x.quarters(day - 1, day, q));
                x.moon(of[q + 1] + 1);
                CHECK.is("behind: the first from the DAY" + told, day, () -> x.quarter(day, q));
                CHECK.is("behind: none on the DAY ahead" + told, 0, () -> x.quarters(day - 1, day, q));
            }
        }
    }

    private static void promise16QuartersOfEachDay() {
        int[][] on = {{0, 29, 59, 88}, {7, 36, 66, 95}, {14, 44, 73, 103}, {22, 51, 81, 110}};
        for (int quarter = 0; quarter < 4; quarter++) {
            int q = quarter;
            AlmanacRoom x = new AlmanacRoom();
            for (int day = 0; day < 95; day++) {
                int d = day;
                int due = d == on[q][0] || d == on[q][1] || d == on[q][2] || d == on[q][3] ? 1 : 0;
                CHECK.is("quarters(" + d + ", " + (d + 1) + ", " + q + ")", due, () -> x.quarters(d, d + 1, q));
                CHECK.is("quarters(" + d + ", " + d + ", " + q + ")", 0, () -> x.quarters(d, d, q));
            }
        }
    }

    private static void promise16Quarters() {
        AlmanacRoom x = new AlmanacRoom();
        CHECK.argument("quarters(-1, 0, 0)", () -> x.quarters(-1, 0, 0));
        CHECK.argument("quarters(0, -1, 0)", () -> x.quarters(0, -1, 0));
        CHECK.argument("quarters(3000000, 3000000, 0)", () -> x.quarters(3000000, 3000000, 0));
        CHECK.argument("quarters(0, 3000000, 0)", () -> x.quarters(0, 3000000, 0));
        CHECK.argument("quarters(5, 4, 0)", () -> x.quarters(5, 4, 0));
        CHECK.argument("quarters(0, 30, -1)", () -> x.quarters(0, 30, -1));
        CHECK.argument("quarters(0, 30, 4)", () -> x.quarters(0, 30, 4));
        CHECK.is("quarters(0, 0, 0)", 0, () -> x.quarters(0, 0, 0));
        CHECK.is("quarters(0, 1, 0)", 1, () -> x.quarters(0, 1, 0));
        CHECK.is("quarters(0, 29, 0) without the other one", 1, () -> x.quarters(0, 29, 0));
        CHECK.is("quarters(0, 30, 0)", 2, () -> x.quarters(0, 30, 0));
        CHECK.is("quarters(29, 60, 0) from the one on", 2, () -> x.quarters(29, 60, 0));
        CHECK.is("quarters(30, 59, 0)", 0, () -> x.quarters(30, 59, 0));
        CHECK.is("quarters(0, 7, 1)", 0, () -> x.quarters(0, 7, 1));
        CHECK.is("quarters(0, 8, 1)", 1, () -> x.quarters(0, 8, 1));
        CHECK.is("quarters(14, 45, 2)", 2, () -> x.quarters(14, 45, 2));
        CHECK.is("quarters(0, 2999999, 0)", 101590, () -> x.quarters(0, 2999999, 0));
        CHECK.is("quarters(0, 2999999, 3)", 101589, () -> x.quarters(0, 2999999, 3));
        x.moon(29530587);
        CHECK.is("quarters(0, 29, 0), START 29530587", 0, () -> x.quarters(0, 29, 0));
        CHECK.is("quarters(0, 30, 0), START 29530587", 1, () -> x.quarters(0, 30, 0));
    }

    private static void promise17MeanYear() {
        AlmanacRoom x = new AlmanacRoom();
        CHECK.outOfBounds("meanYear(0, 0, 1) without calendars", () -> x.meanYear(0, 0, 1));
        x.calendar(0, 5);
        x.calendar(2, 0);
        CHECK.outOfBounds("meanYear(2, -1, 0)", () -> x.meanYear(2, -1, 0));
        CHECK.outOfBounds("meanYear(-1, 0, 1)", () -> x.meanYear(-1, 0, 1));
        CHECK.argument("meanYear(0, -1, 1)", () -> x.meanYear(0, -1, 1));
        CHECK.argument("meanYear(0, 4000, 1)", () -> x.meanYear(0, 4000, 1));
        CHECK.argument("meanYear(0, 0, 0)", () -> x.meanYear(0, 0, 0));
        CHECK.argument("meanYear(0, 0, 101)", () -> x.meanYear(0, 0, 101));
        CHECK.argument("meanYear(0, 3901, 100)", () -> x.meanYear(0, 3901, 100));
        CHECK.argument("meanYear(0, MAX, MAX)", () -> x.meanYear(0, Integer.MAX_VALUE, Integer.MAX_VALUE));
        CHECK.is("meanYear(0, 3900, 100)", 366.25, () -> x.meanYear(0, 3900, 100));
        CHECK.is("meanYear(0, 0, 1)", 367.0, () -> x.meanYear(0, 0, 1));
        CHECK.is("meanYear(0, 1, 1)", 366.0, () -> x.meanYear(0, 1, 1));
        CHECK.is("meanYear(0, 0, 3) is not cut", 1099.0 / 3, () -> x.meanYear(0, 0, 3));
        CHECK.is("meanYear(1, 0, 2)", 369.0, () -> x.meanYear(1, 0, 2));
        CHECK.is("meanYear(1, 3999, 1)", 355.0, () -> x.meanYear(1, 3999, 1));
    }
}

import java.util.Random;

/** Runs of 512 calls, each answered by AlmanacRoom and by PlainRoom; the seeds are fixed. */
public final class RandomRunsTest {
    private static final int RUNS = 200;
    private static final int CALLS = 512;
    private static final int[] EXTREMES = {-1, Integer.MIN_VALUE, Integer.MAX_VALUE, -1000000, 3000000};

    private final Random random;
    private final AlmanacRoom room = new AlmanacRoom();
    private final PlainRoom plain = new PlainRoom();
    private String call = "";

    private RandomRunsTest(int seed) {
        random = new Random(seed);
    }

    public static void main(String[] args) {
        Check check = new Check();
        for (int run = 0; run < RUNS; run++) {
            new RandomRunsTest(run).run(run, check);
        }
        check.end("RandomRunsTest");
    }

    private void run(int seed, Check check) {
        for (int k = 0; k < CALLS; k++) {
            int share = k < 60 ? random.nextInt(13) : random.nextInt(100);
            Check.Call[] two = share < 13 ? change(share) : share < 55 ? ask(share) : askFeasts(share);
            Object due = Check.answerOf(two[1]);
            check.is("run " + seed + ", call " + k + ": " + call, due, two[0]);
        }
        check.is("run " + seed + ": digest()", plain.digest(), () -> room.digest());
    }

    private Check.Call[] change(int share) {
        int k = calendar();
        int f = feast();
        int month = upTo(12);
        switch (share) {
            case 0: {
                int sort = upTo(2);
                int epoch = random.nextInt(3) == 0 ? upTo(1000000) : upTo(3000);
                return two("calendar", () -> room.calendar(sort, epoch), () -> plain.calendar(sort, epoch), sort, epoch);
            }
            case 1: case 2: {
                int length = 20 + upTo(20);
                return two("setMonth", () -> room.setMonth(k, month, length), () -> plain.setMonth(k, month, length),
                    k, month, length);
            }
            case 3:
                return two("leapMonth", () -> room.leapMonth(k, month), () -> plain.leapMonth(k, month), k, month);
            case 4: case 5: {
                int[] r = rules();
                return two("leaps", () -> room.leaps(k, r[0], r[1], r[2]), () -> plain.leaps(k, r[0], r[1], r[2]),
                    k, r[0], r[1], r[2]);
            }
            case 6: {
                int start = upTo(29530587);
                return two("moon", () -> room.moon(start), () -> plain.moon(start), start);
            }
            case 7: {
                int date = upTo(40);
                return two("fixed", () -> room.fixed(k, month, date), () -> plain.fixed(k, month, date), k, month, date);
            }
            case 8: {
                int n = 1 + upTo(4);
                int w = upTo(6);
                return two("nth", () -> room.nth(k, month, n, w), () -> plain.nth(k, month, n, w), k, month, n, w);
            }
            case 9: case 10: {
                int how = 2 + upTo(2);
                int number = how == 2 ? upTo(random.nextBoolean() ? 400 : 10) : upTo(how == 3 ? 6 : 3);
                return two("by", () -> room.by(f, how, number), () -> plain.by(f, how, number), f, how, number);
            }
            default: {
                int w = upTo(7) - 1;
                return two("shun", () -> room.shun(f, w), () -> plain.shun(f, w), f, w);
            }
        }
    }

    private Check.Call[] ask(int share) {
        int k = calendar();
        int year = year();
        int day = day();
        int month = upTo(12);
        switch (share % 14) {
            case 0:
                return two("calendars", () -> room.calendars(), () -> plain.calendars());
            case 1:
                return two("isLeap", () -> room.isLeap(k, year), () -> plain.isLeap(k, year), k, year);
            case 2: case 3: {
                int what = upTo(2);
                return two("ofYear", () -> room.ofYear(k, year, what), () -> plain.ofYear(k, year, what), k, year, what);
            }
            case 4:
                return two("length", () -> room.length(k, year, month), () -> plain.length(k, year, month), k, year, month);
            case 5: {
                int date = upTo(40);
                return two("day", () -> room.day(k, year, month, date), () -> plain.day(k, year, month, date),
                    k, year, month, date);
            }
            case 6: case 7: {
                int what = upTo(3);
                return two("date", () -> room.date(k, day, what), () -> plain.date(k, day, what), k, day, what);
            }
            case 8:
                return two("weekday", () -> room.weekday(day), () -> plain.weekday(day), day);
            case 9:
                return two("age", () -> room.age(day), () -> plain.age(day), day);
            case 10: {
                int q = upTo(3);
                return two("quarter", () -> room.quarter(day, q), () -> plain.quarter(day, q), day, q);
            }
            case 11: {
                int to = random.nextInt(5) == 0 ? day() : within(day) ? day + upTo(400) : day;
                int q = upTo(3);
                return two("quarters", () -> room.quarters(day, to, q), () -> plain.quarters(day, to, q), day, to, q);
            }
            case 12: {
                int many = 1 + upTo(99);
                return two("meanYear", () -> room.meanYear(k, year, many), () -> plain.meanYear(k, year, many),
                    k, year, many);
            }
            default:
                return two("digest", () -> room.digest(), () -> plain.digest());
        }
    }

    private Check.Call[] askFeasts(int share) {
        int k = calendar();
        int f = feast();
        int year = year();
        int day = dayOfFeasts();
        int days = 1 + upTo(59);
        switch (share % 9) {
            case 0:
                return two("feasts", () -> room.feasts(), () -> plain.feasts());
            case 1:
                return two("feast", () -> room.feast(f, year), () -> plain.feast(f, year), f, year);
            case 2: case 3:
                return two("on", () -> room.on(day), () -> plain.on(day), day);
            case 4:
                return two("next", () -> room.next(day, days), () -> plain.next(day, days), day, days);
            case 5:
                return two("meetings", () -> room.meetings(day, days), () -> plain.meetings(day, days), day, days);
            case 6: {
                int other = calendar();
                return two("drift", () -> room.drift(k, other, year), () -> plain.drift(k, other, year), k, other, year);
            }
            case 7: {
                int[] r = rules();
                return two("beginsWith", () -> room.beginsWith(k, r[0], r[1], r[2], year),
                    () -> plain.beginsWith(k, r[0], r[1], r[2], year), k, r[0], r[1], r[2], year);
            }
            default: {
                int many = 1 + upTo(59);
                return two("wander", () -> room.wander(f, year, many), () -> plain.wander(f, year, many), f, year, many);
            }
        }
    }

    private Check.Call[] two(String name, Check.Call asked, Check.Call due, int... arguments) {
        StringBuilder text = new StringBuilder(name).append("(");
        for (int k = 0; k < arguments.length; k++) {
            text.append(k == 0 ? "" : ", ").append(arguments[k]);
        }
        call = text.append(")").toString();
        return new Check.Call[] {asked, due};
    }

    /** 0 to most; now and then what is just not, or not at all, within. */
    private int upTo(int most) {
        int kind = random.nextInt(80);
        if (kind == 0) {
            return EXTREMES[random.nextInt(EXTREMES.length)];
        }
        if (kind == 1) {
            return most + 1;
        }
        if (kind < 8) {
            return kind % 2 == 0 ? most : 0;
        }
        return random.nextInt(most + 1);
    }

    private int calendar() {
        return upTo(Math.max(plain.calendars() - 1, 0));
    }

    private int feast() {
        return upTo(Math.max(plain.feasts() - 1, 0));
    }

    private int year() {
        return upTo(random.nextInt(3) == 0 ? 3999 : 30);
    }

    private int[] rules() {
        if (random.nextBoolean()) {
            int most = random.nextBoolean() ? 1000 : 12;
            return new int[] {upTo(most), upTo(most), upTo(most)};
        }
        int cycle = 1 + upTo(99);
        int bound = cycle >= 1 && cycle <= 100 ? cycle : 10;
        return new int[] {cycle, upTo(bound), upTo(bound - 1)};
    }

    private boolean within(int day) {
        return day >= 0 && day < 3000000;
    }

    /** Mostly where YEARS or MONTHS begin and end. */
    private int day() {
        if (plain.calendars() == 0 || random.nextInt(3) == 0) {
            return upTo(2999999);
        }
        int k = random.nextInt(plain.calendars());
        int year = random.nextInt(4000);
        int at = random.nextInt(8);
        if (at == 0) {
            year = 3999;
            return plain.ofYear(k, year, 2) + plain.ofYear(k, year, 1) + random.nextInt(3) - 1;
        }
        if (at == 1) {
            return plain.ofYear(k, 0, 2) + random.nextInt(3) - 1;
        }
        return plain.day(k, year, random.nextInt(12), 0) + random.nextInt(3) - 1;
    }

    private int dayOfFeasts() {
        if (plain.feasts() == 0 || random.nextInt(8) == 0) {
            return day();
        }
        int year = random.nextInt(3) == 0 ? random.nextInt(4000) : random.nextInt(5);
        int day = plain.feast(random.nextInt(plain.feasts()), year);
        return random.nextBoolean() ? day : day - random.nextInt(60);
    }
}

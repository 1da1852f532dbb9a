/** Promises 8 to 11 and 13 to 15: notice, stop, holiday, moment, laytimeStart, used, demurrage. */
public final class LaytimeTest {
    private static final int LAST_HOUR = 4799;

    public static void main(String[] args) {
        officeHours();
        officeHoursOfAllDays();
        holidays();
        noticesThatCount();
        theFirstOfThem();
        behindTheLastOfficeHour();
        hoursOfNotice();
        hoursThatCount();
        edgesOfStops();
        theFirstAndTheLastDay();
        everySunday();
        allHoursUsed();
        finish();
        finishRoundTheStart();
        money();
        moneyRoundedDown();
        missing();
        theFirstFact();
        backToAnEarlierDay();
        Check.end("LaytimeTest");
    }

    private static int startOf(int hour, int... holidays) {
        Averagehall x = Check.opened(0);
        x.clause('n', 0, false);
        for (int day : holidays) {
            x.holiday(day);
        }
        x.notice(hour, true);
        return x.laytimeStart();
    }

    /** "The hours 8 to 16, both included, of a day from Monday to Friday". */
    private static void officeHours() {
        Check.eq("ahead of office hours", startOf(0), 8);
        Check.eq("ahead of office hours", startOf(7), 8);
        Check.eq("the first office hour", startOf(8), 8);
        Check.eq("an office hour", startOf(12), 12);
        Check.eq("the last office hour", startOf(16), 16);
        Check.eq("behind office hours", startOf(17), 32);
        Check.eq("behind office hours", startOf(23), 32);
        Check.eq("the last one on Friday", startOf(4 * 24 + 16), 4 * 24 + 16);
        Check.eq("Friday evening", startOf(4 * 24 + 17), 7 * 24 + 8);
        Check.eq("Saturday", startOf(5 * 24 + 10), 7 * 24 + 8);
        Check.eq("Sunday", startOf(6 * 24 + 10), 7 * 24 + 8);
        Check.eq("Monday, too early", startOf(7 * 24), 7 * 24 + 8);
        Check.eq("Monday again", startOf(7 * 24 + 10), 7 * 24 + 10);
    }

    /** "The day 0 is a Monday": in each week up to the last one, hour by hour round the edges. */
    private static void officeHoursOfAllDays() {
        for (int day = 0; day < 200; day++) {
            int weekday = day % 7;
            int today = weekday < 5 ? day : day + 7 - weekday;
            int next = weekday < 4 ? day + 1 : day + 7 - weekday;
            Check.eq("at 7 of the day " + day, startOf(day * 24 + 7), today * 24 + 8);
            Check.eq("at 8 of the day " + day, startOf(day * 24 + 8), today * 24 + 8);
            Check.eq("at 16 of the day " + day, startOf(day * 24 + 16), weekday < 5 ? day * 24 + 16 : today * 24 + 8);
            if (day < 199) {
                Check.eq("at 17 of the day " + day, startOf(day * 24 + 17), next * 24 + 8);
            }
        }
    }

    private static void holidays() {
        Check.eq("on a holiday", startOf(10, 0), 32);
        Check.eq("ahead of a holiday", startOf(17, 1), 56);
        Check.eq("behind a holiday", startOf(34, 0), 34);
        Check.eq("holidays round a week's end", startOf(4 * 24 + 12, 4, 7, 8), 9 * 24 + 8);
        Check.eq("a holiday told twice", startOf(10, 0, 0, 1), 56);
        Check.eq("a holiday on a Sunday", startOf(6 * 24, 6), 7 * 24 + 8);
        Check.eq("no week's end is made a workday", startOf(5 * 24 + 9, 5, 6), 7 * 24 + 8);
        Averagehall x = Check.opened(0);
        x.clause('n', 0, false);
        for (int day = 0; day < 198; day++) {
            x.holiday(day);
        }
        x.notice(0, true);
        Check.eq("198 holidays, all facts", x.facts() + " " + x.laytimeStart(), "200 " + (198 * 24 + 8));
    }

    private static void noticesThatCount() {
        Averagehall x = Check.opened(4);
        x.notice(10, false);
        Check.fails("away from the berth", Check.NSEE, x::laytimeStart);
        x.notice(40, true);
        Check.eq("at the berth", x.laytimeStart(), 46);
        x.notice(41, true);
        Check.eq("a later one", x.laytimeStart(), 46);
        x.clause('b', 1, false);
        Check.eq("away from the berth, as it may be", x.laytimeStart(), 16);
        x.clause('b', 0, true);
        Check.eq("away from the berth, as it may not be", x.laytimeStart(), 46);
        x.strike(4);
        Check.eq("as it may be again", x.laytimeStart(), 16);
        x.paper(2);
        x.notice(50, true);
        x.asOf(3);
        Check.eq("as of 3", x.laytimeStart(), 56 + 6);
        x.asOf(1);
        Check.fails("as of 1", Check.NSEE, x::laytimeStart);
    }

    /** "The first one of those that count, by this hour": not by the hour at which it was given, nor as it was told. */
    private static void theFirstOfThem() {
        Averagehall y = Check.opened(4);
        y.notice(23, true);
        y.notice(31, true);
        Check.eq("of the same office hour", y.laytimeStart(), 38);
        y.notice(16, true);
        Check.eq("an earlier one told later", y.laytimeStart(), 22);
        y.holiday(0);
        Check.eq("by the hour from which they count", y.laytimeStart(), 38);
        y.notice(0, true);
        Check.eq("one of the hour 0", y.laytimeStart(), 38);
        y.holiday(1);
        Check.eq("all a day later", y.laytimeStart(), 62);
    }

    /** The day 199 is a Thursday: the next office hour is that of the day behind the last one that is told of. */
    private static void behindTheLastOfficeHour() {
        Check.eq("the last office hour", startOf(199 * 24 + 16), 4792);
        Check.eq("behind it", startOf(199 * 24 + 17), 4808);
        Check.eq("the last hour", startOf(LAST_HOUR), 4808);
        Check.eq("a holiday on the last day", startOf(199 * 24 + 9, 199), 4808);
        Averagehall x = Check.opened(0);
        x.notice(LAST_HOUR, true);
        x.moment('f', LAST_HOUR);
        Check.eq("nothing used", x.used(), 0);
        Check.eq("all despatch", x.demurrage(), -3600);
    }

    private static void hoursOfNotice() {
        Averagehall x = Check.opened(0);
        x.notice(10, true);
        x.moment('f', LAST_HOUR);
        Check.eq("6 hours at first", x.laytimeStart(), 16);
        x.clause('n', 0, false);
        Check.eq("none", x.laytimeStart(), 10);
        x.clause('n', 1, false);
        Check.eq("one", x.laytimeStart(), 11);
        x.clause('n', LAST_HOUR - 10, false);
        Check.eq("up to the last hour", x.laytimeStart() + " " + x.used(), LAST_HOUR + " 0");
        x.clause('n', LAST_HOUR - 11, false);
        Check.eq("the last hour but one is used", x.laytimeStart() + " " + x.used(), LAST_HOUR - 1 + " 1");
        x.clause('n', 9999, true);
        Check.eq("behind all hours", x.laytimeStart() + " " + x.used(), "10009 0");
        Check.eq("all despatch", x.demurrage(), -3600);
    }

    private static Averagehall loading(int finish) {
        Averagehall x = Check.opened(0);
        x.clause('n', 0, false);
        x.clause('a', 9999, false);
        x.notice(8, true);
        x.moment('f', finish);
        return x;
    }

    private static void hoursThatCount() {
        Averagehall x = loading(8 * 24);
        Check.eq("but a Sunday", x.used(), 8 * 24 - 8 - 24);
        x.holiday(2);
        Check.eq("but a holiday", x.used(), 8 * 24 - 8 - 48);
        x.holiday(6);
        Check.eq("but a holiday on a Sunday", x.used(), 8 * 24 - 8 - 48);
        x.clause('s', 1, false);
        Check.eq("Sundays and holidays count", x.used(), 184);
        x.stop('r', 0, 10);
        Check.eq("rain", x.used(), 182);
        x.stop('r', 9, 12);
        Check.eq("rain twice", x.used(), 180);
        x.stop('k', 11, 30);
        Check.eq("a strike", x.used(), 162);
        x.stop('s', 20, 60);
        Check.eq("shifting", x.used(), 132);
        x.stop('o', 100, 150);
        Check.eq("off hire is no matter", x.used(), 132);
        x.clause('r', 1, false);
        Check.eq("rain counts", x.used(), 135);
        x.clause('k', 1, false);
        Check.eq("strikes count, shifting does not", x.used(), 144);
        x.stop('s', 190, 4800);
        Check.eq("shifting at the end", x.used(), 142);
        x.clause('s', 0, true);
        Check.eq("no Sundays and holidays", x.used(), 142 - 24 - 12);
        x.clause('k', 0, true);
        x.stop('k', 0, 4800);
        Check.eq("a strike all the time", x.used(), 0);
    }

    private static int usedWith(char cause, int from, int to) {
        Averagehall x = loading(72);
        x.stop(cause, from, to);
        return x.used();
    }

    /** "Hours from one up to the one ahead of another one": 64 hours are used without a stop, from 8 to 71. */
    private static void edgesOfStops() {
        for (char cause : "rks".toCharArray()) {
            Check.eq("ahead of laytime, " + cause, usedWith(cause, 0, 8), 64);
            Check.eq("the first hour, " + cause, usedWith(cause, 0, 9), 63);
            Check.eq("the first hour alone, " + cause, usedWith(cause, 8, 9), 63);
            Check.eq("the second hour alone, " + cause, usedWith(cause, 9, 10), 63);
            Check.eq("over midnight, " + cause, usedWith(cause, 23, 25), 62);
            Check.eq("up to midnight, " + cause, usedWith(cause, 20, 24), 60);
            Check.eq("from midnight, " + cause, usedWith(cause, 24, 26), 62);
            Check.eq("a day, " + cause, usedWith(cause, 24, 48), 40);
            Check.eq("a day and an hour on each side, " + cause, usedWith(cause, 23, 49), 38);
            Check.eq("the last hour, " + cause, usedWith(cause, 71, 4800), 63);
            Check.eq("behind the last hour, " + cause, usedWith(cause, 72, 73), 64);
            Check.eq("all hours, " + cause, usedWith(cause, 0, 4800), 0);
            Check.eq("all hours but the last, " + cause, usedWith(cause, 0, 71), 1);
            Check.eq("the last hour of all, " + cause, usedWith(cause, LAST_HOUR, 4800), 64);
        }
        Check.eq("off hire", usedWith('o', 0, 4800), 64);
    }

    private static void theFirstAndTheLastDay() {
        Averagehall x = Check.opened(0);
        x.clause('n', 0, false);
        x.clause('a', 9999, false);
        x.notice(199 * 24 + 8, true);
        x.moment('f', LAST_HOUR);
        Check.eq("the hours of the last day", x.used(), 15);
        x.stop('k', LAST_HOUR, 4800);
        Check.eq("the hour of the finish is not asked", x.used(), 15);
        x.stop('k', LAST_HOUR - 1, 4800);
        Check.eq("the last hour that is", x.used(), 14);
        x.holiday(199);
        Check.eq("the last day is a holiday", x.used(), 0);
        Averagehall y = Check.opened(0);
        y.clause('n', 0, false);
        y.clause('a', 9999, false);
        y.notice(0, true);
        y.moment('f', 24);
        Check.eq("the hours of the first day", y.used(), 16);
        y.holiday(0);
        Check.eq("the first day is a holiday", y.laytimeStart() + " " + y.used(), "32 0");
    }

    private static void everySunday() {
        for (int week = 0; week < 28; week++) {
            int sunday = (7 * week + 6) * 24;
            int before = loading(sunday).used();
            Check.eq("a Saturday", before - loading(sunday - 24).used(), 24);
            Check.eq("a Sunday", loading(sunday + 23).used() - before, 0);
            Check.eq("the hour behind a Sunday", loading(sunday + 25).used() - before, 1);
        }
        Check.eq("all 28 Sundays", loading(LAST_HOUR).used(), LAST_HOUR - 8 - 28 * 24);
    }

    /** "When all hours allowed are used, every hour is used from then on, those of shifting too". */
    private static void allHoursUsed() {
        Averagehall x = loading(8 * 24);
        x.stop('s', 20, 30);
        x.stop('r', 30, 40);
        x.clause('a', 12, true);
        Check.eq("used at 20, all from then on", x.used(), 184);
        x.clause('a', 13, true);
        Check.eq("used at 41", x.used(), 12 + 8 * 24 - 40);
        x.clause('a', 0, true);
        Check.eq("none allowed", x.used(), 184);
        x.clause('a', 5 * 24 + 16 - 20 + 24, true);
        Check.eq("used at the end of Sunday", x.used(), 140);
        x.stop('s', 0, 4800);
        Check.eq("shifting all the time", x.used(), 0);
        x.clause('a', 0, true);
        Check.eq("shifting all the time, none allowed", x.used(), 184);
        for (char cause : "rks".toCharArray()) {
            Averagehall y = loading(40);
            y.stop(cause, 10, 30);
            y.clause('a', 2, true);
            Check.eq("none left at 10, " + cause, y.used(), 32);
            y.clause('a', 3, true);
            Check.eq("one left at 10, " + cause, y.used(), 12);
            y.clause('a', 12, true);
            Check.eq("the last one used at the end, " + cause, y.used(), 12);
        }
        Averagehall z = loading(60);
        z.holiday(1);
        z.clause('a', 16, true);
        Check.eq("none left ahead of a holiday", z.used(), 52);
        z.clause('a', 17, true);
        Check.eq("one left ahead of a holiday", z.used(), 28);
    }

    private static void finish() {
        Averagehall x = Check.opened(5);
        x.notice(8, true);
        Check.fails("loading was not finished", Check.NSEE, x::used);
        x.moment('f', 30);
        Check.eq("finished", x.used(), 16);
        x.moment('d', 40);
        x.moment('g', 41);
        x.moment('e', 42);
        Check.eq("other moments", x.used(), 16);
        x.moment('f', 50);
        Check.eq("told later in the same paper", x.used(), 36);
        x.paper(4);
        x.moment('f', 60);
        Check.eq("a paper that came in earlier", x.used(), 36);
        x.paper(5);
        x.moment('f', 20);
        Check.eq("a paper of the same day", x.used(), 6);
        x.paper(6);
        x.moment('f', 21);
        x.paper(5);
        x.moment('f', 22);
        Check.eq("the paper of the last day", x.used(), 7);
        x.asOf(5);
        Check.eq("as of 5", x.used(), 8);
        x.asOf(4);
        Check.fails("as of 4 there is no notice", Check.NSEE, x::used);
        x.notice(9, true);
        Check.fails("nor by a notice of the day 5", Check.NSEE, x::used);
        x.paper(0);
        x.notice(16, true);
        Check.eq("as of 4", x.used(), 38);
        x.asOf(3);
        Check.fails("as of 3 loading was not finished", Check.NSEE, x::used);
    }

    /** "Up to the hour ahead of that in which loading was finished". */
    private static void finishRoundTheStart() {
        int[][] finishAndUsed = {{0, 0}, {3, 0}, {13, 0}, {14, 0}, {15, 1}, {16, 2}, {14 + 71, 71}, {14 + 72, 72},
            {14 + 73, 73}};
        for (int[] row : finishAndUsed) {
            Averagehall x = Check.opened(0);
            x.notice(8, true);
            x.moment('f', row[0]);
            Check.eq("laytime starts at 14, loading was finished at " + row[0], x.used(), row[1]);
        }
    }

    private static void money() {
        Averagehall x = Check.opened(0);
        x.notice(8, true);
        x.moment('f', 14);
        Check.eq("despatch", x.demurrage(), -3600);
        x.moment('f', 14 + 71);
        Check.eq("despatch of an hour", x.demurrage(), -50);
        x.moment('f', 14 + 72);
        Check.eq("neither", x.demurrage(), 0);
        x.moment('f', 14 + 73);
        Check.eq("demurrage of an hour", x.demurrage(), 100);
        x.clause('a', 73, true);
        Check.eq("neither", x.demurrage(), 0);
        x.clause('a', 74, true);
        Check.eq("despatch of an hour", x.demurrage(), -50);
        x.clause('a', 0, true);
        Check.eq("none allowed", x.demurrage(), 7300);
        x.moment('f', 0);
        Check.eq("none allowed, none used", x.demurrage(), 0);
        x.clause('a', 9999, true);
        x.clause('e', 9999, true);
        Check.eq("the most despatch", x.demurrage(), -(9999 * 9999 / 24));
        x.clause('a', 0, true);
        x.clause('d', 9999, true);
        x.moment('f', LAST_HOUR);
        Check.eq("the most demurrage", x.demurrage(), 9999 * 4785 / 24);
        x.clause('d', 0, true);
        Check.eq("no demurrage", x.demurrage(), 0);
        x.clause('a', 9999, true);
        x.clause('e', 0, true);
        Check.eq("no despatch", x.demurrage(), 0);
    }

    private static Averagehall hours(int used, int demurrage, int despatch) {
        Averagehall x = Check.opened(0);
        x.notice(8, true);
        x.moment('f', 14 + used);
        x.clause('d', demurrage, false);
        x.clause('e', despatch, false);
        return x;
    }

    /** "Each divided by 24, rounded down": despatch is rounded down by itself, ahead of being taken off. */
    private static void moneyRoundedDown() {
        Check.eq("23 of 24", hours(73, 23, 0).demurrage(), 0);
        Check.eq("24 of 24", hours(73, 24, 0).demurrage(), 1);
        Check.eq("47 of 24", hours(73, 47, 0).demurrage(), 1);
        Check.eq("48 of 24", hours(73, 48, 0).demurrage(), 2);
        Check.eq("23 of 24 despatch", hours(71, 0, 23).demurrage(), 0);
        Check.eq("24 of 24 despatch", hours(71, 0, 24).demurrage(), -1);
        Check.eq("47 of 24 despatch", hours(71, 0, 47).demurrage(), -1);
        Check.eq("48 of 24 despatch", hours(71, 0, 48).demurrage(), -2);
        Check.eq("all hours together, not each", hours(74, 12, 0).demurrage(), 1);
        Check.eq("all hours together, not each", hours(70, 0, 12).demurrage(), -1);
    }

    private static void theFirstFact() {
        Averagehall x = Check.opened(0);
        x.stop('s', 20, 30);
        x.notice(8, true);
        x.moment('f', 40);
        Check.eq("a stop as the first fact", x.used(), 16);
        Averagehall y = Check.opened(0);
        y.holiday(1);
        y.notice(8, true);
        y.moment('f', 60);
        Check.eq("a holiday as the first fact", y.used(), 10 + 12);
        Averagehall z = Check.opened(0);
        z.moment('f', 20);
        z.notice(8, true);
        Check.eq("a moment as the first fact", z.used(), 6);
    }

    private static void backToAnEarlierDay() {
        Averagehall x = Check.opened(3);
        x.notice(8, true);
        x.moment('f', 60);
        x.paper(5);
        x.holiday(0);
        x.stop('r', 40, 44);
        Check.eq("with the later paper", x.laytimeStart() + " " + x.used(), "38 18");
        x.asOf(4);
        Check.eq("without it", x.laytimeStart() + " " + x.used(), "14 46");
        x.asOf(5);
        Check.eq("with it", x.laytimeStart() + " " + x.used(), "38 18");
    }

    private static void fails(String what, Averagehall x) {
        Check.fails(what + ": used", Check.NSEE, x::used);
        Check.fails(what + ": demurrage", Check.NSEE, x::demurrage);
    }

    private static void missing() {
        fails("nothing told", new Averagehall());
        Check.fails("nothing told: start", Check.NSEE, () -> new Averagehall().laytimeStart());
        Averagehall x = Check.opened(0);
        x.moment('f', 100);
        Check.fails("no notice: start", Check.NSEE, x::laytimeStart);
        fails("no notice", x);
        x.notice(20, false);
        Check.fails("no notice that counts: start", Check.NSEE, x::laytimeStart);
        fails("no notice that counts", x);
        Averagehall y = Check.opened(0);
        y.notice(100, true);
        Check.eq("no finish: start", y.laytimeStart(), 110);
        fails("no finish", y);
        y.moment('d', 120);
        y.moment('g', 121);
        y.moment('e', 122);
        fails("other moments alone", y);
    }
}

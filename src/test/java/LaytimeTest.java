/** Promises 8 to 11 and 13 to 15: notice, stop, holiday, moment, laytimeStart, used, demurrage. */
public final class LaytimeTest {
    public static void main(String[] args) {
        ranges();
        officeHours();
        noticesThatCount();
        behindTheLastOfficeHour();
        hoursThatCount();
        everySunday();
        allHoursUsed();
        finish();
        money();
        missing();
        theFirstFact();
        backToAnEarlierDay();
        Check.end("LaytimeTest");
    }

    private static void ranges() {
        Averagehall x = Check.opened(0);
        int[] wrongHours = {-1, 4800, Integer.MIN_VALUE, Integer.MAX_VALUE};
        for (int hour : wrongHours) {
            Check.failsAndKeeps("notice " + hour, Check.IAE, x, () -> x.notice(hour, true));
            Check.failsAndKeeps("moment " + hour, Check.IAE, x, () -> x.moment('f', hour));
            Check.failsAndKeeps("stop from " + hour, Check.IAE, x, () -> x.stop('r', hour, 4800));
        }
        int[] wrongEnds = {10, 9, 0, -1, 4801, Integer.MIN_VALUE, Integer.MAX_VALUE};
        for (int to : wrongEnds) {
            Check.failsAndKeeps("stop to " + to, Check.IAE, x, () -> x.stop('o', 10, to));
        }
        int[] wrongDays = {-1, 200, Integer.MIN_VALUE, Integer.MAX_VALUE};
        for (int day : wrongDays) {
            Check.failsAndKeeps("holiday " + day, Check.IAE, x, () -> x.holiday(day));
        }
        int number = 0;
        for (char c = 0; c < 300; c++) {
            char sign = c;
            if ("rkso".indexOf(c) < 0) {
                Check.fails("stop of " + (int) c, Check.IAE, () -> x.stop(sign, 0, 1));
            } else {
                Check.eq("stop of " + c, x.stop(c, 0, 4800), number++);
                Check.eq("stop of " + c, x.stop(c, 4799, 4800), number++);
            }
            if ("fdge".indexOf(c) < 0) {
                Check.fails("moment " + (int) c, Check.IAE, () -> x.moment(sign, 0));
            } else {
                Check.eq("moment " + c, x.moment(c, 4799), number++);
                Check.eq("moment " + c, x.moment(c, 0), number++);
            }
        }
        Check.eq("notice", x.notice(0, true), number++);
        Check.eq("notice", x.notice(4799, false), number++);
        Check.eq("holiday", x.holiday(0), number++);
        Check.eq("holiday", x.holiday(199), number);
    }

    private static int startOf(int hour, int... holidays) {
        Averagehall x = Check.opened(0);
        x.clause('n', 0, false);
        for (int day : holidays) {
            x.holiday(day);
        }
        x.notice(hour, true);
        return x.laytimeStart();
    }

    private static void officeHours() {
        Check.eq("ahead of office hours", startOf(0), 8);
        Check.eq("ahead of office hours", startOf(7), 8);
        Check.eq("the first office hour", startOf(8), 8);
        Check.eq("an office hour", startOf(12), 12);
        Check.eq("the last office hour", startOf(16), 16);
        Check.eq("behind office hours", startOf(17), 32);
        Check.eq("behind office hours", startOf(23), 32);
        Check.eq("the last one on Friday", startOf(4 * 24 + 16), 4 * 24 + 16);
        Check.eq("Friday evening", startOf(4 * 24 + 17), 7 * 24 + 8);
        Check.eq("Saturday", startOf(5 * 24 + 10), 7 * 24 + 8);
        Check.eq("Sunday", startOf(6 * 24 + 10), 7 * 24 + 8);
        Check.eq("Monday again", startOf(7 * 24 + 10), 7 * 24 + 10);
        Check.eq("on a holiday", startOf(10, 0), 32);
        Check.eq("ahead of a holiday", startOf(17, 1), 56);
        Check.eq("holidays round a week's end", startOf(4 * 24 + 12, 4, 7, 8), 9 * 24 + 8);
        Check.eq("a holiday told twice", startOf(10, 0, 0, 1), 56);
    }

    private static void noticesThatCount() {
        Averagehall x = Check.opened(4);
        x.notice(10, false);
        Check.fails("away from the berth", Check.NSEE, x::laytimeStart);
        x.notice(40, true);
        Check.eq("at the berth", x.laytimeStart(), 46);
        x.notice(41, true);
        Check.eq("a later one", x.laytimeStart(), 46);
        x.clause('b', 1, false);
        Check.eq("away from the berth, as it may be", x.laytimeStart(), 16);
        x.clause('n', 9999, true);
        Check.eq("hours of notice", x.laytimeStart(), 10009);
        x.clause('n', 30, true);
        x.paper(2);
        x.notice(50, true);
        x.asOf(3);
        Check.eq("as of 3", x.laytimeStart(), 56 + 6);
        x.asOf(1);
        Check.fails("as of 1", Check.NSEE, x::laytimeStart);
        Averagehall y = Check.opened(4);
        y.notice(23, true);
        y.notice(31, true);
        Check.eq("of the same office hour", y.laytimeStart(), 38);
        y.notice(16, true);
        Check.eq("an earlier one told later", y.laytimeStart(), 22);
        y.holiday(0);
        Check.eq("by the hour from which they count", y.laytimeStart(), 38);
    }

    /** The day 199 is a Thursday: the next office hour is that of the day behind the last one that is told of. */
    private static void behindTheLastOfficeHour() {
        Check.eq("the last office hour", startOf(199 * 24 + 16), 4792);
        Check.eq("behind it", startOf(199 * 24 + 17), 4808);
        Check.eq("the last hour", startOf(4799), 4808);
        Check.eq("a holiday on the last day", startOf(199 * 24 + 9, 199), 4808);
        Averagehall x = Check.opened(0);
        x.notice(4799, true);
        x.moment('f', 4799);
        Check.eq("nothing used", x.used(), 0);
        Check.eq("all despatch", x.demurrage(), -3600);
    }

    private static Averagehall loading(int finish) {
        Averagehall x = Check.opened(0);
        x.clause('n', 0, false);
        x.clause('a', 9999, false);
        x.notice(8, true);
        x.moment('f', finish);
        return x;
    }

    private static void hoursThatCount() {
        Averagehall x = loading(8 * 24);
        Check.eq("but a Sunday", x.used(), 8 * 24 - 8 - 24);
        x.holiday(2);
        Check.eq("but a holiday", x.used(), 8 * 24 - 8 - 48);
        x.holiday(6);
        Check.eq("but a holiday on a Sunday", x.used(), 8 * 24 - 8 - 48);
        x.clause('s', 1, false);
        Check.eq("Sundays and holidays count", x.used(), 184);
        x.stop('r', 0, 10);
        Check.eq("rain", x.used(), 182);
        x.stop('r', 9, 12);
        Check.eq("rain twice", x.used(), 180);
        x.stop('k', 11, 30);
        Check.eq("a strike", x.used(), 162);
        x.stop('s', 20, 60);
        Check.eq("shifting", x.used(), 132);
        x.stop('o', 100, 150);
        Check.eq("off hire is no matter", x.used(), 132);
        x.clause('r', 1, false);
        Check.eq("rain counts", x.used(), 135);
        x.clause('k', 1, false);
        Check.eq("strikes count, shifting does not", x.used(), 144);
        x.stop('s', 190, 4800);
        Check.eq("shifting at the end", x.used(), 142);
        x.clause('s', 0, true);
        Check.eq("no Sundays and holidays", x.used(), 142 - 24 - 12);
        x.clause('k', 0, true);
        x.stop('k', 0, 4800);
        Check.eq("a strike all the time", x.used(), 0);
    }

    private static void everySunday() {
        for (int week = 0; week < 28; week++) {
            int sunday = (7 * week + 6) * 24;
            int before = loading(sunday).used();
            Check.eq("a Sunday", loading(sunday + 23).used() - before, 0);
            Check.eq("the hour behind a Sunday", loading(sunday + 25).used() - before, 1);
        }
        Check.eq("all 28 Sundays", loading(4799).used(), 4799 - 8 - 28 * 24);
    }

    private static void allHoursUsed() {
        Averagehall x = loading(8 * 24);
        x.stop('s', 20, 30);
        x.stop('r', 30, 40);
        x.clause('a', 12, true);
        Check.eq("used at 20, all from then on", x.used(), 184);
        x.clause('a', 13, true);
        Check.eq("used at 41", x.used(), 12 + 8 * 24 - 40);
        x.clause('a', 0, true);
        Check.eq("none allowed", x.used(), 184);
        x.clause('a', 5 * 24 + 16 - 20 + 24, true);
        Check.eq("used at the end of Sunday", x.used(), 140);
    }

    private static void finish() {
        Averagehall x = Check.opened(5);
        x.notice(8, true);
        Check.fails("loading was not finished", Check.NSEE, x::used);
        x.moment('f', 30);
        Check.eq("finished", x.used(), 16);
        x.moment('d', 40);
        x.moment('g', 41);
        x.moment('e', 42);
        Check.eq("other moments", x.used(), 16);
        x.moment('f', 14);
        Check.eq("finished as laytime starts", x.used(), 0);
        x.moment('f', 15);
        Check.eq("an hour later", x.used(), 1);
        x.moment('f', 3);
        Check.eq("finished ahead of it", x.used(), 0);
        x.paper(4);
        x.moment('f', 50);
        Check.eq("a paper that came in earlier", x.used(), 0);
        x.paper(5);
        x.moment('f', 20);
        Check.eq("a paper of the same day", x.used(), 6);
        x.paper(6);
        x.moment('f', 21);
        x.paper(5);
        x.moment('f', 22);
        Check.eq("the paper of the last day", x.used(), 7);
        x.asOf(5);
        Check.eq("as of 5", x.used(), 8);
        x.asOf(4);
        Check.fails("as of 4 there is no notice", Check.NSEE, x::used);
        x.notice(9, true);
        Check.fails("nor by a notice of the day 5", Check.NSEE, x::used);
        x.paper(0);
        x.notice(16, true);
        Check.eq("as of 4", x.used(), 28);
    }

    private static void money() {
        Averagehall x = Check.opened(0);
        x.notice(8, true);
        x.moment('f', 14);
        Check.eq("despatch", x.demurrage(), -3600);
        x.moment('f', 14 + 71);
        Check.eq("despatch of an hour", x.demurrage(), -50);
        x.moment('f', 14 + 72);
        Check.eq("neither", x.demurrage(), 0);
        x.moment('f', 14 + 73);
        Check.eq("demurrage of an hour", x.demurrage(), 100);
        x.clause('d', 47, true);
        Check.eq("demurrage rounded down", x.demurrage(), 1);
        x.clause('e', 47, true);
        x.moment('f', 14 + 71);
        Check.eq("despatch rounded down", x.demurrage(), -1);
        x.clause('e', 23, true);
        Check.eq("despatch rounded down", x.demurrage(), 0);
        x.clause('a', 9999, true);
        x.clause('e', 9999, true);
        Check.eq("the most despatch", x.demurrage(), -(9999 * (9999 - 71) / 24));
        x.clause('a', 0, true);
        x.clause('d', 9999, true);
        x.moment('f', 4799);
        Check.eq("the most demurrage", x.demurrage(), 9999 * 4785 / 24);
    }

    private static void theFirstFact() {
        Averagehall x = Check.opened(0);
        x.stop('s', 20, 30);
        x.notice(8, true);
        x.moment('f', 40);
        Check.eq("a stop as the first fact", x.used(), 16);
        Averagehall y = Check.opened(0);
        y.holiday(1);
        y.notice(8, true);
        y.moment('f', 60);
        Check.eq("a holiday as the first fact", y.used(), 10 + 12);
        Averagehall z = Check.opened(0);
        z.moment('f', 20);
        z.notice(8, true);
        Check.eq("a moment as the first fact", z.used(), 6);
    }

    private static void backToAnEarlierDay() {
        Averagehall x = Check.opened(3);
        x.notice(8, true);
        x.moment('f', 60);
        x.paper(5);
        x.holiday(0);
        x.stop('r', 40, 44);
        Check.eq("with the later paper", x.laytimeStart() + " " + x.used(), "38 18");
        x.asOf(4);
        Check.eq("without it", x.laytimeStart() + " " + x.used(), "14 46");
        x.asOf(5);
        Check.eq("with it", x.laytimeStart() + " " + x.used(), "38 18");
    }

    private static void missing() {
        Averagehall x = Check.opened(0);
        x.moment('f', 100);
        Check.fails("no notice: start", Check.NSEE, x::laytimeStart);
        Check.fails("no notice: used", Check.NSEE, x::used);
        Check.fails("no notice: demurrage", Check.NSEE, x::demurrage);
        Averagehall y = Check.opened(0);
        y.notice(100, true);
        Check.eq("no finish: start", y.laytimeStart(), 110);
        Check.fails("no finish: used", Check.NSEE, y::used);
        Check.fails("no finish: demurrage", Check.NSEE, y::demurrage);
    }
}

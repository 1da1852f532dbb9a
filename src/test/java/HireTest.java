/** Promises 12, 16 and 17, and what moments and stops mean for hire: run, hoursLost, hire. */
public final class HireTest {
    private static final int LAST_HOUR = 4799;

    public static void main(String[] args) {
        oneDay();
        wind();
        severalDays();
        speeds();
        toldAgain();
        theFirstAndTheLastDay();
        theMostMiles();
        hire();
        edgesOfOffHire();
        otherStops();
        lessTheHoursLost();
        roundedDown();
        moments();
        toldAgainMoments();
        theFirstFact();
        backToAnEarlierDay();
        Check.end("HireTest");
    }

    private static int lostBy(int wind, int miles) {
        Averagehall x = Check.opened(0);
        x.run(7, wind, miles);
        return x.hoursLost();
    }

    /** 24 hours at 12 miles are 288. */
    private static void oneDay() {
        Check.eq("nothing told", new Averagehall().hoursLost(), 0);
        Check.eq("no log", Check.opened(0).hoursLost(), 0);
        Check.eq("as promised", lostBy(4, 288), 0);
        Check.eq("a mile less, rounded up", lostBy(4, 287), 0);
        Check.eq("11 miles less, rounded up", lostBy(4, 277), 0);
        Check.eq("12 miles less", lostBy(4, 276), 1);
        Check.eq("13 miles less, rounded up", lostBy(4, 275), 1);
        Check.eq("a mile more, at least 0", lostBy(4, 289), 0);
        Check.eq("faster, at least 0", lostBy(4, 600), 0);
        Check.eq("no miles", lostBy(4, 0), 24);
        Check.eq("a mile, rounded up", lostBy(4, 1), 23);
        Check.eq("12 miles", lostBy(4, 12), 23);
        Check.eq("13 miles, rounded up", lostBy(4, 13), 22);
    }

    /** "With a wind not above the greatest one", which is 4 at first. */
    private static void wind() {
        Check.eq("no wind", lostBy(0, 0), 24);
        Check.eq("the greatest", lostBy(4, 0), 24);
        Check.eq("above it", lostBy(5, 0), 0);
        Check.eq("far above it", lostBy(12, 0), 0);
        for (int greatest : new int[] {0, 1, 11, 12, 9999}) {
            for (int wind = 0; wind <= 12; wind++) {
                Averagehall x = Check.opened(0);
                x.clause('w', greatest, false);
                x.run(3, wind, 0);
                Check.eq("a wind of " + wind + ", the greatest " + greatest, x.hoursLost(), wind <= greatest ? 24 : 0);
            }
        }
    }

    private static void severalDays() {
        Averagehall x = Check.opened(5);
        x.run(1, 4, 600);
        x.run(2, 0, 0);
        Check.eq("the fast day helps", x.hoursLost(), 0);
        x.run(0, 0, 0);
        Check.eq("all days together", x.hoursLost(), 72 - 50);
        x.run(1, 5, 600);
        Check.eq("too much wind", x.hoursLost(), 48);
        x.clause('w', 5, false);
        Check.eq("not too much", x.hoursLost(), 22);
        x.run(1, 0, 5);
        x.run(2, 0, 8);
        Check.eq("miles are added ahead of rounding", x.hoursLost(), 72 - 2);
        x.run(2, 0, 7);
        Check.eq("12 miles of two days", x.hoursLost(), 72 - 1);
    }

    private static void speeds() {
        Averagehall x = Check.opened(0);
        x.run(1, 0, 13);
        x.clause('v', 1, false);
        Check.eq("the least speed", x.hoursLost(), 24 - 13);
        x.clause('v', 13, false);
        Check.eq("the speed of a mile each", x.hoursLost(), 23);
        x.clause('v', 14, false);
        Check.eq("rounded up", x.hoursLost(), 23);
        x.clause('v', 9999, false);
        Check.eq("the greatest speed", x.hoursLost(), 23);
        x.run(1, 0, 0);
        Check.eq("the greatest speed, no miles", x.hoursLost(), 24);
        x.clause('v', 1, false);
        x.run(1, 0, 24);
        Check.eq("the least speed, as promised", x.hoursLost(), 0);
        x.run(1, 0, 23);
        Check.eq("the least speed, a mile less", x.hoursLost(), 1);
    }

    /** "In place of what was told of it by facts with lower numbers", whatever the days of their papers. */
    private static void toldAgain() {
        Averagehall x = Check.opened(5);
        x.run(1, 4, 0);
        x.run(1, 4, 288);
        Check.eq("told again", x.hoursLost(), 0);
        x.run(1, 4, 0);
        Check.eq("and again", x.hoursLost(), 24);
        x.run(1, 5, 0);
        Check.eq("with another wind", x.hoursLost(), 0);
        x.paper(3);
        x.run(1, 4, 144);
        Check.eq("by numbers of facts, not by days", x.hoursLost(), 12);
        x.asOf(4);
        Check.eq("as of 4", x.hoursLost(), 12);
        x.run(1, 4, 264);
        Check.eq("as of 4, told again", x.hoursLost(), 2);
        x.asOf(2);
        Check.eq("as of 2", x.hoursLost(), 0);
        x.paper(9);
        x.run(1, 4, 12);
        Check.eq("what does not count yet takes no place", x.asOf(4) + " " + x.hoursLost(), "2 2");
    }

    private static void theFirstAndTheLastDay() {
        for (int day : new int[] {0, 1, 198, 199}) {
            Averagehall x = Check.opened(0);
            x.run(day, 0, 12);
            Check.eq("the day " + day, x.hoursLost(), 23);
            x.run(day, 0, 24);
            Check.eq("the day " + day + " told again", x.hoursLost(), 22);
        }
    }

    private static void theMostMiles() {
        Averagehall x = Check.opened(0);
        x.clause('v', 1, false);
        for (int day = 0; day < 199; day++) {
            x.run(day, 0, 600);
        }
        Check.eq("far more than promised", x.hoursLost(), 0);
        Averagehall y = Check.opened(0);
        for (int day = 0; day < 200; day++) {
            y.run(day, 4, 0);
        }
        Check.eq("each hour of 200 days", y.hoursLost(), 4800);
    }

    private static Averagehall hired(int from, int to) {
        Averagehall x = Check.opened(0);
        x.clause('h', 24, false);
        x.moment('d', from);
        x.moment('g', to);
        return x;
    }

    private static void hire() {
        Averagehall x = Check.opened(0);
        x.moment('d', 0);
        x.moment('g', 1);
        Check.eq("an hour", x.hire(), 200);
        x.moment('g', 24);
        Check.eq("a day", x.hire(), 4800);
        x.moment('g', LAST_HOUR);
        x.clause('h', 9999, false);
        Check.eq("the most", x.hire(), 9999L * 4799 / 24);
        x.clause('h', 0, false);
        Check.eq("no hire", x.hire(), 0);
        Check.eq("the last hour", hired(LAST_HOUR - 1, LAST_HOUR).hire(), 1);
    }

    private static long offHire(int from, int to) {
        Averagehall x = hired(10, 60);
        x.stop('o', from, to);
        return x.hire();
    }

    /** "From the hour at which the ship was delivered to that at which she was given back": the hours 10 to 59. */
    private static void edgesOfOffHire() {
        Check.eq("never", hired(10, 60).hire(), 50);
        Check.eq("ahead of it", offHire(0, 10), 50);
        Check.eq("the first hour too", offHire(0, 11), 49);
        Check.eq("the first hour", offHire(10, 11), 49);
        Check.eq("the last hour", offHire(59, 60), 49);
        Check.eq("the last hour and more", offHire(59, 4800), 49);
        Check.eq("behind it", offHire(60, 61), 50);
        Check.eq("over midnight", offHire(23, 25), 48);
        Check.eq("all of it", offHire(10, 60), 0);
        Check.eq("all hours", offHire(0, 4800), 0);
        Check.eq("all but the last", offHire(0, 59), 1);
        Check.eq("all but the first", offHire(11, 4800), 1);
        Averagehall x = hired(0, LAST_HOUR);
        x.stop('o', 10, 20);
        Check.eq("off hire", x.hire(), 4789);
        x.stop('o', 15, 25);
        Check.eq("each hour once", x.hire(), 4784);
        x.stop('o', 12, 14);
        Check.eq("each hour once", x.hire(), 4784);
        x.stop('o', 10, 20);
        Check.eq("told twice", x.hire(), 4784);
        x.stop('o', 4000, 4800);
        Check.eq("up to the end", x.hire(), 3985);
    }

    private static void otherStops() {
        Averagehall x = hired(0, LAST_HOUR);
        x.stop('r', 100, 200);
        x.stop('k', 100, 200);
        x.stop('s', 100, 200);
        x.holiday(3);
        Check.eq("other stops", x.hire(), LAST_HOUR);
    }

    private static void lessTheHoursLost() {
        Averagehall x = hired(22, 72);
        x.run(150, 0, 0);
        Check.eq("a day out of the hire", x.hire(), 26);
        x.run(1, 0, 0);
        Check.eq("a day in the hire", x.hire(), 2);
        x.stop('o', 30, 31);
        Check.eq("an hour is left", x.hire(), 1);
        x.stop('o', 31, 32);
        Check.eq("no hour is left", x.hire(), 0);
        x.stop('o', 32, 33);
        Check.eq("at least 0", x.hire(), 0);
        x.run(2, 0, 0);
        Check.eq("at least 0", x.hire(), 0);
        Check.eq("but all are lost", x.hoursLost(), 72);
        for (int day : new int[] {0, 1, 2, 3, 4, 5, 199}) {
            Averagehall y = hired(50, 110);
            y.run(day, 0, 0);
            Check.eq("in the hire or not, the day " + day, y.hoursLost() + " " + y.hire(), "24 36");
        }
    }

    private static void roundedDown() {
        int[][] hireAndCoins = {{0, 0}, {1, 0}, {23, 0}, {24, 1}, {25, 1}, {47, 1}, {48, 2}, {9999, 416}};
        for (int[] row : hireAndCoins) {
            Averagehall x = hired(0, 1);
            x.clause('h', row[0], true);
            Check.eq("an hour of a day of " + row[0], x.hire(), row[1]);
        }
        Averagehall y = hired(0, 25);
        y.clause('h', 23, true);
        Check.eq("all hours together", y.hire(), 23);
        y.clause('h', 24, true);
        Check.eq("all hours together", y.hire(), 25);
    }

    private static void theFirstFact() {
        Averagehall x = Check.opened(0);
        x.run(0, 0, 0);
        Check.eq("a day in the log as the first fact", x.hoursLost(), 24);
        Averagehall y = Check.opened(0);
        y.stop('o', 0, 5);
        y.moment('d', 0);
        y.moment('g', 6);
        Check.eq("a stop as the first fact", y.hire(), 200);
    }

    private static void backToAnEarlierDay() {
        Averagehall x = Check.opened(3);
        x.moment('d', 0);
        x.moment('g', 48);
        x.run(1, 0, 276);
        x.paper(5);
        x.stop('o', 0, 5);
        x.run(2, 0, 0);
        x.run(1, 0, 0);
        Check.eq("with the later paper", x.hoursLost() + " " + x.hire(), "48 0");
        x.asOf(4);
        Check.eq("without it", x.hoursLost() + " " + x.hire(), "1 9400");
        x.asOf(5);
        Check.eq("with it", x.hoursLost() + " " + x.hire(), "48 0");
    }

    /** "Not delivered or not given back, or the former is not the earlier one". */
    private static void moments() {
        Check.fails("nothing told", Check.NSEE, () -> new Averagehall().hire());
        Averagehall x = Check.opened(5);
        Check.fails("neither", Check.NSEE, x::hire);
        x.moment('d', 10);
        Check.fails("not given back", Check.NSEE, x::hire);
        x.moment('g', 10);
        Check.fails("in the same hour", Check.NSEE, x::hire);
        x.moment('g', 9);
        Check.fails("given back ahead of it", Check.NSEE, x::hire);
        x.moment('g', 11);
        Check.eq("an hour", x.hire(), 200);
        x.moment('f', 1);
        x.moment('e', 2);
        Check.eq("other moments", x.hire(), 200);
        x.asOf(4);
        Check.fails("as of 4 not delivered", Check.NSEE, x::hire);
        Averagehall y = Check.opened(0);
        y.moment('g', 30);
        Check.fails("not delivered", Check.NSEE, y::hire);
        y.moment('f', 1);
        y.moment('e', 2);
        Check.fails("not delivered, other moments", Check.NSEE, y::hire);
        Averagehall z = Check.opened(0);
        z.moment('d', 0);
        z.moment('g', 0);
        Check.fails("both at 0", Check.NSEE, z::hire);
        z.moment('d', LAST_HOUR);
        z.moment('g', LAST_HOUR);
        Check.fails("both in the last hour", Check.NSEE, z::hire);
        z.moment('d', LAST_HOUR - 1);
        Check.eq("an hour", z.hire(), 200);
    }

    /** "In place of what was told by papers that came in earlier, or on the same day and were told earlier". */
    private static void toldAgainMoments() {
        Averagehall x = Check.opened(5);
        x.moment('d', 10);
        x.moment('g', 11);
        x.paper(4);
        x.moment('g', 12);
        x.moment('d', 1);
        Check.eq("by a paper that came in earlier", x.hire(), 200);
        x.paper(5);
        x.moment('g', 13);
        Check.eq("by a paper of the same day", x.hire(), 600);
        x.moment('d', 9);
        Check.eq("by a paper of the same day", x.hire(), 800);
        x.paper(6);
        x.moment('g', 15);
        Check.eq("by a later one", x.hire(), 1200);
        x.asOf(5);
        Check.eq("as of 5", x.hire(), 800);
        x.asOf(4);
        Check.eq("as of 4", x.hire(), 2200);
    }
}

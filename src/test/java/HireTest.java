/** Promises 12, 16 and 17, and what moments and stops mean for hire: run, hoursLost, hire. */
public final class HireTest {
    public static void main(String[] args) {
        ranges();
        log();
        hire();
        moments();
        theFirstFact();
        backToAnEarlierDay();
        Check.end("HireTest");
    }

    private static void ranges() {
        Averagehall x = Check.opened(0);
        Check.eq("run", x.run(0, 0, 0), 0);
        Check.eq("run", x.run(199, 12, 600), 1);
        int[][] wrong = {{-1, 0, 0}, {200, 0, 0}, {0, -1, 0}, {0, 13, 0}, {0, 0, -1}, {0, 0, 601},
            {Integer.MIN_VALUE, 0, 0}, {0, Integer.MAX_VALUE, 0}, {0, 0, Integer.MAX_VALUE}};
        for (int[] row : wrong) {
            Check.failsAndKeeps("run " + java.util.Arrays.toString(row), Check.IAE, x, () -> x.run(row[0], row[1], row[2]));
        }
    }

    private static void log() {
        Averagehall x = Check.opened(5);
        Check.eq("no log", x.hoursLost(), 0);
        x.run(1, 4, 288);
        Check.eq("as promised", x.hoursLost(), 0);
        x.run(1, 4, 276);
        Check.eq("an hour", x.hoursLost(), 1);
        x.run(1, 4, 277);
        Check.eq("rounded up ahead of it", x.hoursLost(), 0);
        x.run(1, 4, 600);
        Check.eq("faster", x.hoursLost(), 0);
        x.run(2, 0, 0);
        Check.eq("the fast day helps", x.hoursLost(), 0);
        x.run(0, 0, 0);
        Check.eq("all days together", x.hoursLost(), 72 - 50);
        x.run(1, 5, 600);
        Check.eq("too much wind", x.hoursLost(), 48);
        x.clause('w', 5, false);
        Check.eq("not too much", x.hoursLost(), 22);
        x.run(1, 0, 5);
        x.run(2, 0, 8);
        Check.eq("miles are added ahead of rounding", x.hoursLost(), 72 - 2);
        x.clause('v', 1, false);
        Check.eq("another speed", x.hoursLost(), 72 - 13);
        x.clause('v', 9999, false);
        Check.eq("another speed", x.hoursLost(), 72 - 1);
        x.clause('w', 0, false);
        Check.eq("no wind", x.hoursLost(), 71);
        x.paper(3);
        x.run(2, 0, 9999 / 17);
        Check.eq("by numbers of facts, not by days", x.hoursLost(), 71);
        x.clause('v', 2, true);
        Check.eq("by numbers of facts, not by days", x.hoursLost(), 0);
        x.asOf(4);
        Check.eq("as of 4", x.hoursLost(), 0);
        x.run(2, 0, 1);
        Check.eq("as of 4", x.hoursLost(), 23);
        x.asOf(2);
        Check.eq("as of 2", x.hoursLost(), 0);
    }

    private static void hire() {
        Averagehall x = Check.opened(0);
        x.moment('d', 0);
        x.moment('g', 1);
        Check.eq("an hour", x.hire(), 200);
        x.clause('h', 47, false);
        Check.eq("rounded down", x.hire(), 1);
        x.moment('g', 4799);
        x.clause('h', 9999, false);
        Check.eq("the most", x.hire(), 9999L * 4799 / 24);
        x.clause('h', 24, false);
        x.stop('o', 10, 20);
        Check.eq("off hire", x.hire(), 4789);
        x.stop('o', 15, 25);
        Check.eq("each hour once", x.hire(), 4784);
        x.stop('o', 12, 14);
        Check.eq("each hour once", x.hire(), 4784);
        x.stop('o', 4000, 4800);
        Check.eq("up to the end", x.hire(), 3985);
        x.stop('r', 100, 200);
        x.stop('k', 100, 200);
        x.stop('s', 100, 200);
        Check.eq("other stops", x.hire(), 3985);
        x.moment('d', 22);
        x.moment('g', 72);
        Check.eq("off hire in part ahead of it", x.hire(), 47);
        x.run(150, 0, 0);
        Check.eq("a day out of the hire", x.hire(), 23);
        x.run(151, 0, 12);
        Check.eq("at least 0", x.hire(), 0);
        x.run(150, 0, 288);
        Check.eq("lost hours", x.hire(), 24);
    }

    private static void theFirstFact() {
        Averagehall x = Check.opened(0);
        x.run(0, 0, 0);
        Check.eq("a day in the log as the first fact", x.hoursLost(), 24);
        Averagehall y = Check.opened(0);
        y.stop('o', 0, 5);
        y.moment('d', 0);
        y.moment('g', 6);
        Check.eq("a stop as the first fact", y.hire(), 200);
    }

    private static void backToAnEarlierDay() {
        Averagehall x = Check.opened(3);
        x.moment('d', 0);
        x.moment('g', 48);
        x.run(1, 0, 276);
        x.paper(5);
        x.stop('o', 0, 5);
        x.run(2, 0, 0);
        x.run(1, 0, 0);
        Check.eq("with the later paper", x.hoursLost() + " " + x.hire(), "48 0");
        x.asOf(4);
        Check.eq("without it", x.hoursLost() + " " + x.hire(), "1 9400");
    }

    private static void moments() {
        Averagehall x = Check.opened(5);
        Check.fails("neither", Check.NSEE, x::hire);
        x.moment('d', 10);
        Check.fails("not given back", Check.NSEE, x::hire);
        x.moment('g', 10);
        Check.fails("in the same hour", Check.NSEE, x::hire);
        x.moment('g', 9);
        Check.fails("given back ahead of it", Check.NSEE, x::hire);
        x.moment('g', 11);
        Check.eq("an hour", x.hire(), 200);
        x.paper(3);
        x.moment('g', 12);
        Check.eq("a paper that came in earlier", x.hire(), 200);
        x.paper(5);
        x.moment('g', 13);
        x.moment('d', 9);
        Check.eq("in the same paper and on the same day", x.hire(), 800);
        x.moment('f', 1);
        x.moment('e', 2);
        Check.eq("other moments", x.hire(), 800);
        x.asOf(4);
        Check.fails("as of 4 not delivered", Check.NSEE, x::hire);
        Averagehall y = Check.opened(0);
        y.moment('g', 30);
        Check.fails("not delivered", Check.NSEE, y::hire);
    }
}

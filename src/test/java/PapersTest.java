/** Promises 1 to 4: a new object, paper, asOf, facts; and what papers and days mean for every telling call. */
public final class PapersTest {
    public static void main(String[] args) {
        aNewObject();
        papers();
        asOf();
        facts();
        noPaper();
        fullBook();
        Check.end("PapersTest");
    }

    private static void aNewObject() {
        Averagehall x = new Averagehall();
        Check.eq("new: all", Check.snapshot(x), "0 0 0 72 2400 1200 6 0 0 0 0 4800 12 4 7 2 50"
                + " laytime throws.NoSuchElementException throws.NoSuchElementException throws.NoSuchElementException"
                + " 0 throws.NoSuchElementException average 0 fund"
                + " throws.ArithmeticException throws.ArithmeticException true");
        Check.eq("new: as of the day 999", x.asOf(5), 999);
    }

    private static void papers() {
        Averagehall x = new Averagehall();
        Check.failsAndKeeps("paper(-1)", Check.IAE, x, () -> x.paper(-1));
        Check.failsAndKeeps("paper(901)", Check.IAE, x, () -> x.paper(901));
        Check.failsAndKeeps("paper(min)", Check.IAE, x, () -> x.paper(Integer.MIN_VALUE));
        Check.failsAndKeeps("paper(max)", Check.IAE, x, () -> x.paper(Integer.MAX_VALUE));
        Check.fails("still no paper", Check.ISE, () -> x.tons(1));
        for (int number = 0; number < 40; number++) {
            Check.eq("paper number", x.paper(number % 2 == 0 ? 0 : 900), number);
        }
        Check.failsAndKeeps("paper 41", Check.ISE, x, () -> x.paper(5));
        Check.fails("paper 41, a wrong day first", Check.IAE, () -> x.paper(901));
        x.interest(10);
        x.asOf(899);
        Check.eq("the paper that is open is still the last one", x.interests(), 0);
        x.asOf(900);
        Check.eq("the paper that is open is still the last one", x.interests(), 1);
    }

    private static void asOf() {
        Averagehall x = Check.opened(10);
        x.interest(5);
        Check.eq("asOf at first", x.asOf(0), 999);
        Check.eq("asOf before", x.asOf(10), 0);
        Check.eq("on the day", x.interests(), 1);
        Check.eq("asOf before", x.asOf(9), 10);
        Check.eq("a day earlier", x.interests(), 0);
        Check.failsAndKeeps("asOf(-1)", Check.IAE, x, () -> x.asOf(-1));
        Check.failsAndKeeps("asOf(1000)", Check.IAE, x, () -> x.asOf(1000));
        Check.eq("the day stands", x.asOf(999), 9);
        Check.eq("asOf before", x.asOf(999), 999);
    }

    private static void facts() {
        Averagehall x = Check.opened(10);
        x.interest(5);
        x.peril('l', 7, 1, 1);
        x.paper(3);
        x.holiday(1);
        x.notice(1, false);
        Check.eq("facts", x.facts(), 4);
        x.asOf(9);
        Check.eq("facts as of 9", x.facts(), 2);
        Check.eq("numbers go on", x.holiday(2), 4);
        x.asOf(2);
        Check.eq("facts as of 2", x.facts(), 0);
        Check.eq("numbers go on for what does not count", x.strike(x.clause('a', 1, true)), 6);
        Check.eq("facts as of 2", x.facts(), 0);
        x.asOf(10);
        Check.eq("facts as of 10", x.facts(), 7);
    }

    private static Check.Call[] tellings(Averagehall x) {
        return new Check.Call[] {
            () -> x.clause('a', 1, true), () -> x.notice(0, true), () -> x.stop('r', 0, 1), () -> x.holiday(0),
            () -> x.moment('f', 0), () -> x.run(0, 0, 0), () -> x.interest(1), () -> x.peril('l', 0, 1, 0),
            () -> x.expense('p', 0, 1, 0), () -> x.substitute(0, 1, 0, 0), () -> x.award(1, 0),
            () -> x.deposit(0, 1), () -> x.tons(1), () -> x.claim(0, 1, 0)
        };
    }

    private static Check.Call[] wrongTellings(Averagehall x) {
        return new Check.Call[] {
            () -> x.clause('z', 1, true), () -> x.notice(-1, true), () -> x.stop('r', 0, 0), () -> x.holiday(200),
            () -> x.moment('x', 0), () -> x.run(0, 0, -1), () -> x.interest(0), () -> x.peril('p', 0, 1, 0),
            () -> x.expense('s', 0, 1, 0), () -> x.substitute(0, 1, -1, 0), () -> x.award(0, 0),
            () -> x.deposit(20, 1), () -> x.tons(0), () -> x.claim(4, 1, 0)
        };
    }

    private static void noPaper() {
        Averagehall x = new Averagehall();
        for (Check.Call call : tellings(x)) {
            Check.failsAndKeeps("no paper is open", Check.ISE, x, call);
        }
        for (Check.Call call : wrongTellings(x)) {
            Check.failsAndKeeps("no paper is open, but what is told is wrong", Check.IAE, x, call);
        }
        Check.fails("strike without a paper", Check.IOOBE, () -> x.strike(0));
    }

    private static void fullBook() {
        Averagehall x = Check.opened(1);
        for (int number = 0; number < 200; number += 10) {
            Check.eq("clause", x.clause('a', number, false), number);
            Check.eq("interest", x.interest(100 + number), number + 1);
            Check.eq("claim", x.claim(number % 4, 1000, 0), number + 2);
            Check.eq("notice", x.notice(number, true), number + 3);
            Check.eq("stop", x.stop('o', number, number + 3), number + 4);
            Check.eq("moment", x.moment("fdge".charAt(number / 10 % 4), 1000 + number), number + 5);
            Check.eq("peril", x.peril('g', number / 10, 7, number), number + 6);
            Check.eq("expense", x.expense('p', number / 10, 77, 2), number + 7);
            Check.eq("run", x.run(number, 1, 200), number + 8);
            Check.eq("strike", x.strike(0), number + 9);
        }
        Check.eq("200 facts", x.facts(), 200);
        for (Check.Call call : tellings(x)) {
            Check.fails("a fact too many", Check.ISE, call);
        }
        Check.failsAndKeeps("a clause too many", Check.ISE, x, () -> x.clause('a', 9, true));
        Check.failsAndKeeps("a strike too many", Check.ISE, x, () -> x.strike(190));
        Check.eq("not struck", x.binding('a'), 190);
        for (Check.Call call : wrongTellings(x)) {
            Check.fails("a fact too many, but what is told is wrong", Check.IAE, call);
        }
        Check.fails("a strike too many, of no clause", Check.IOOBE, () -> x.strike(1));
        Check.eq("200 facts", x.facts(), 200);
        Check.eq("papers go on", x.paper(900), 1);
    }
}

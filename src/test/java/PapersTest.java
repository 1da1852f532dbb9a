/** Promises 1 to 4: a new object, paper, asOf, facts; and as of which day each kind of fact counts. */
public final class PapersTest {
    interface Tell {
        void to(Averagehall x);
    }

    public static void main(String[] args) {
        aNewObject();
        papers();
        theFirstAndTheLastDay();
        asOf();
        facts();
        factsOfEachKind();
        eachKindOnItsDay();
        restated();
        fullBook();
        theLastCall();
        Check.end("PapersTest");
    }

    /** "Creates a voyage without papers": nothing was told yet, and every call has its answer. */
    private static void aNewObject() {
        Averagehall x = new Averagehall();
        Check.eq("new: all", Check.snapshot(x), "0 0 0 72 2400 1200 6 0 0 0 0 4800 12 4 7 2 50"
                + " laytime throws.NoSuchElementException throws.NoSuchElementException throws.NoSuchElementException"
                + " 0 throws.NoSuchElementException average 0 fund"
                + " throws.ArithmeticException throws.ArithmeticException true");
        Check.eq("new: as of the day 999", x.asOf(5), 999);
        Check.eq("new: the first paper", x.paper(5), 0);
        Check.eq("new: the first fact", x.interest(5), 0);
        Check.eq("new: two have nothing in common", new Averagehall().facts(), 0);
    }

    private static void papers() {
        Averagehall x = new Averagehall();
        Check.fails("no paper", Check.ISE, () -> x.tons(1));
        Check.fails("a wrong day", Check.IAE, () -> x.paper(901));
        Check.fails("still no paper", Check.ISE, () -> x.tons(1));
        for (int number = 0; number < 40; number++) {
            Check.eq("paper number", x.paper(number % 2 == 0 ? 0 : 900), number);
        }
        Check.fails("a paper too many", Check.ISE, () -> x.paper(5));
        Check.fails("a paper too many, a wrong day first", Check.IAE, () -> x.paper(901));
        x.interest(10);
        x.asOf(899);
        Check.eq("the paper that is open is still the last one", x.interests(), 0);
        x.asOf(900);
        Check.eq("the paper that is open is still the last one", x.interests(), 1);
        Averagehall y = Check.opened(30);
        y.paper(20);
        y.interest(1);
        y.asOf(20);
        Check.eq("in place of the one that is open", y.interests(), 1);
        y.paper(10);
        y.asOf(19);
        Check.eq("what was told stays in its paper", y.interests(), 0);
        y.interest(1);
        Check.eq("what is told stands in the new one", y.interests(), 1);
    }

    private static void theFirstAndTheLastDay() {
        Averagehall x = Check.opened(0);
        x.interest(10);
        x.paper(900);
        x.interest(20);
        Check.eq("as of 999, at first", x.interests(), 2);
        x.asOf(0);
        Check.eq("as of 0", x.interests(), 1);
        x.asOf(899);
        Check.eq("as of 899", x.interests(), 1);
        x.asOf(900);
        Check.eq("as of 900", x.interests(), 2);
        x.asOf(999);
        Check.eq("as of 999", x.interests(), 2);
    }

    private static void asOf() {
        Averagehall x = Check.opened(10);
        x.interest(5);
        Check.eq("asOf at first", x.asOf(0), 999);
        Check.eq("asOf before", x.asOf(10), 0);
        Check.eq("on the day", x.interests(), 1);
        Check.eq("asOf before", x.asOf(9), 10);
        Check.eq("a day earlier", x.interests(), 0);
        Check.fails("a day too early", Check.IAE, () -> x.asOf(-1));
        Check.fails("a day too late", Check.IAE, () -> x.asOf(1000));
        Check.eq("the day stands", x.asOf(999), 9);
        Check.eq("asOf before", x.asOf(999), 999);
        x.asOf(3);
        x.paper(4);
        Check.eq("a paper does not set the day", x.asOf(3), 3);
        x.interest(5);
        Check.eq("nor does a fact", x.asOf(3), 3);
    }

    private static void facts() {
        Averagehall x = Check.opened(10);
        Check.eq("a paper without facts", x.facts(), 0);
        x.interest(5);
        x.peril('l', 7, 1, 1);
        x.paper(3);
        x.holiday(1);
        x.notice(1, false);
        Check.eq("facts", x.facts(), 4);
        x.asOf(9);
        Check.eq("facts as of 9", x.facts(), 2);
        Check.eq("numbers go on", x.holiday(2), 4);
        x.asOf(2);
        Check.eq("facts as of 2", x.facts(), 0);
        Check.eq("numbers go on for what does not count", x.strike(x.clause('a', 1, true)), 6);
        Check.eq("facts as of 2", x.facts(), 0);
        x.asOf(3);
        Check.eq("facts as of 3", x.facts(), 5);
        x.asOf(10);
        Check.eq("facts as of 10", x.facts(), 7);
    }

    private static Tell[] tellings() {
        return new Tell[] {
            x -> x.clause('a', 1, true), x -> x.strike(0), x -> x.notice(0, true), x -> x.stop('r', 0, 1),
            x -> x.holiday(0), x -> x.moment('f', 0), x -> x.run(0, 0, 0), x -> x.interest(1), x -> x.peril('l', 0, 1, 0),
            x -> x.expense('p', 0, 1, 0), x -> x.substitute(0, 1, 0, 0), x -> x.award(1, 0),
            x -> x.deposit(0, 1), x -> x.tons(1), x -> x.claim(0, 1, 0)
        };
    }

    private static void factsOfEachKind() {
        Averagehall x = Check.opened(7);
        int count = 0;
        for (Tell tell : tellings()) {
            x.asOf(7);
            tell.to(x);
            count++;
            Check.eq("facts on the day, kind " + count, x.facts(), count);
            x.asOf(6);
            Check.eq("facts a day earlier, kind " + count, x.facts(), 0);
        }
    }

    /** What is told by a paper of the day 20 is asked on the day, a day earlier, and without being told. */
    private static void onItsDay(String what, Tell past, Tell tell, Check.CallOn asks, Object due) {
        Averagehall x = Check.opened(0);
        past.to(x);
        String without = Check.outcome(() -> asks.answer(x));
        x.paper(20);
        tell.to(x);
        Check.eq(what + " at first", Check.outcome(() -> asks.answer(x)), due);
        x.asOf(19);
        Check.eq(what + " a day earlier", Check.outcome(() -> asks.answer(x)), without);
        x.asOf(20);
        Check.eq(what + " on the day", Check.outcome(() -> asks.answer(x)), due);
        Check.eq(what + " is told apart", without.equals(String.valueOf(due)), false);
    }

    private static void loading(Averagehall x) {
        x.notice(8, true);
        x.moment('f', 100);
    }

    private static void hired(Averagehall x) {
        x.moment('d', 0);
        x.moment('g', 24);
    }

    private static void twoInterests(Averagehall x) {
        x.interest(1000);
        x.interest(500);
    }

    private static void eachKindOnItsDay() {
        Tell nothing = x -> { };
        onItsDay("print", nothing, x -> x.clause('v', 9, false), x -> x.binding('v'), 9);
        onItsDay("a rider", x -> x.clause('v', 8, true), x -> x.clause('v', 9, true), x -> x.binding('v'), 9);
        onItsDay("a strike", x -> x.clause('v', 8, true), x -> x.strike(0), x -> x.binding('v'), 12);
        onItsDay("a notice", nothing, x -> x.notice(8, true), x -> x.laytimeStart(), 14);
        onItsDay("a holiday for notices", x -> x.notice(8, true), x -> x.holiday(0), x -> x.laytimeStart(), 38);
        onItsDay("a holiday for laytime", PapersTest::loading, x -> x.holiday(1), x -> x.used(), 62);
        onItsDay("rain", PapersTest::loading, x -> x.stop('r', 20, 25), x -> x.used(), 81);
        onItsDay("a strike of men", PapersTest::loading, x -> x.stop('k', 20, 25), x -> x.used(), 81);
        onItsDay("shifting", PapersTest::loading, x -> x.stop('s', 20, 25), x -> x.used(), 81);
        onItsDay("a finish", x -> x.notice(8, true), x -> x.moment('f', 20), x -> x.used(), 6);
        onItsDay("another finish", PapersTest::loading, x -> x.moment('f', 20), x -> x.used(), 6);
        onItsDay("delivery", x -> x.moment('g', 24), x -> x.moment('d', 0), x -> x.hire(), 4800);
        onItsDay("being given back", x -> x.moment('d', 0), x -> x.moment('g', 24), x -> x.hire(), 4800);
        onItsDay("off hire", PapersTest::hired, x -> x.stop('o', 0, 12), x -> x.hire(), 2400);
        onItsDay("a day in the log", PapersTest::hired, x -> x.run(9, 0, 144), x -> x.hoursLost() + " " + x.hire(), "12 2400");
        onItsDay("an interest", nothing, x -> x.interest(7), x -> x.interests() + " " + x.rest(0), "1 7");
        onItsDay("a loss", PapersTest::twoInterests, x -> x.peril('l', 1, 3, 0), x -> x.rest(1) + " " + x.madeGood(1), "497 0");
        onItsDay("a sacrifice", PapersTest::twoInterests, x -> x.peril('g', 1, 3, 0), x -> x.rest(1) + " " + x.madeGood(1), "497 3");
        onItsDay("an expense", PapersTest::twoInterests, x -> x.expense('f', 1, 30, 0), x -> x.average() + " " + x.balance(1), "30 -20");
        onItsDay("one made in place", PapersTest::twoInterests, x -> x.substitute(1, 40, 30, 0), x -> x.average() + " " + x.balance(1), "30 -20");
        onItsDay("the end for interest", x -> onePort(x), x -> x.moment('e', 24), x -> x.average(), 36500 + 730 + 7);
        onItsDay("the end for claims", x -> x.claim(0, 9, 900), x -> x.moment('e', 24), x -> x.paid(0), 0);
        onItsDay("an award", PapersTest::twoInterests, x -> x.award(30, 0), x -> x.balance(1), 10);
        onItsDay("an award by the rules 3", x -> newRules(x), x -> x.award(30, 0), x -> x.share(1, true), 10);
        onItsDay("another award", x -> x.award(30, 0), x -> { x.award(60, 0); x.interest(5); }, x -> x.average(), 60);
        onItsDay("a deposit", PapersTest::twoInterests, x -> x.deposit(1, 30), x -> x.due(1), -30);
        onItsDay("tons", x -> x.claim(0, 9999, 0), x -> x.tons(2), x -> x.paid(0), 100);
        onItsDay("a claim", x -> x.claim(3, 9999, 0), x -> x.claim(2, 4990, 0), x -> x.claims() + " " + x.paid(0), "2 10");
    }

    private static void onePort(Averagehall x) {
        x.interest(10);
        x.expense('p', 0, 36500, 0);
    }

    private static void newRules(Averagehall x) {
        twoInterests(x);
        x.clause('y', 3, false);
    }

    /** Tells a part of a story; the parts come in on other days than that on which they happened. */
    private static void tellPart(Averagehall x, int part) {
        switch (part) {
            case 0:
                x.interest(1000);
                x.notice(17, true);
                x.moment('f', 90);
                x.claim(1, 700, 5);
                break;
            case 1:
                x.interest(800);
                x.peril('g', 0, 100, 50);
                x.moment('d', 3);
                x.moment('g', 500);
                x.run(4, 2, 200);
                break;
            case 2:
                x.expense('p', 1, 90, 3);
                x.clause('y', 1, true);
                x.clause('n', 2, false);
                x.claim(0, 4500, 380);
                x.peril('l', 0, 950, 40);
                break;
            default:
                x.expense('w', 0, 70, 3);
                x.moment('e', 240);
                x.holiday(1);
                x.award(60, 45);
                x.interest(400);
        }
    }

    /** "So restated, each answer is what it would have been then": as if the later papers had not come in at all. */
    private static void restated() {
        int[] came = {12, 30, 8, 20};
        for (int day : new int[] {0, 7, 8, 11, 12, 13, 19, 20, 29, 30, 31, 900, 999}) {
            Averagehall all = new Averagehall();
            Averagehall then = new Averagehall();
            all.asOf(day);
            for (int part = 0; part < came.length; part++) {
                all.paper(came[part]);
                tellPart(all, part);
                if (came[part] <= day) {
                    then.paper(came[part]);
                    tellPart(then, part);
                }
            }
            Check.eq("restated as of " + day, Check.snapshot(all), Check.snapshot(then));
        }
    }

    private static void fullBook() {
        Averagehall x = Check.opened(1);
        for (int number = 0; number < 200; number += 10) {
            Check.eq("clause", x.clause('a', number, false), number);
            Check.eq("interest", x.interest(100 + number), number + 1);
            Check.eq("claim", x.claim(number % 4, 1000, 0), number + 2);
            Check.eq("notice", x.notice(number, true), number + 3);
            Check.eq("stop", x.stop('o', number, number + 3), number + 4);
            Check.eq("moment", x.moment("fdge".charAt(number / 10 % 4), 1000 + number), number + 5);
            Check.eq("peril", x.peril('g', number / 10, 7, number), number + 6);
            Check.eq("expense", x.expense('p', number / 10, 77, 2), number + 7);
            Check.eq("run", x.run(number, 1, 200), number + 8);
            Check.eq("strike", x.strike(0), number + 9);
        }
        Check.eq("200 facts", x.facts(), 200);
        for (Tell tell : tellings()) {
            Check.fails("a fact too many", Check.ISE, () -> {
                tell.to(x);
                return "no exception";
            });
        }
        Check.fails("a strike too many", Check.ISE, () -> x.strike(190));
        Check.eq("not struck", x.binding('a'), 190);
        Check.fails("a strike too many, of no clause", Check.IOOBE, () -> x.strike(1));
        x.asOf(0);
        Check.eq("none counts", x.facts(), 0);
        Check.fails("but all places are taken", Check.ISE, () -> x.interest(1));
        Check.eq("papers go on", x.paper(900), 1);
        Check.fails("but facts do not", Check.ISE, () -> x.interest(1));
        x.asOf(1);
        Check.eq("200 facts", x.facts(), 200);
        Check.eq("20 interests", x.interests() + " " + x.rest(19), "20 " + (290 - 7));
    }

    /** "Used for at most 512 calls": the 512th one still has its answer. */
    private static void theLastCall() {
        Averagehall x = Check.opened(900);
        for (int call = 2; call <= 200; call++) {
            Check.eq("the call " + call, x.interest(call), call - 2);
        }
        for (int call = 201; call <= 510; call++) {
            Check.eq("the call " + call, x.balance(call % 199), 0);
        }
        Check.eq("the call 511", x.facts(), 199);
        Check.eq("the call 512", x.rest(198), 200);
    }
}

/** Promises 18 to 22 and 24 to 27: interests, perils, expenses, the average and its shares. */
public final class AverageTest {
    private static final int MOST = 100000;

    public static void main(String[] args) {
        nothingTold();
        noSuchInterest();
        interests();
        leastAndMostValue();
        perils();
        atMostTheRest();
        byTheirHours();
        perilsOfNobody();
        allLost();
        allButOneCoinLost();
        expensesLetIn();
        expensesOfNobody();
        hundredths();
        interestOnExpenses();
        interestRoundedDown();
        substitutes();
        sharing();
        greatestRemainders();
        coinsForAllButOne();
        sharesTogether();
        theMost();
        theFirstFact();
        backToAnEarlierDay();
        eachAskedFirst();
        Check.end("AverageTest");
    }

    private static Averagehall withInterests(int... values) {
        Averagehall x = Check.opened(5);
        for (int value : values) {
            x.interest(value);
        }
        return x;
    }

    private static String rests(Averagehall x) {
        StringBuilder text = new StringBuilder();
        for (int i = 0; i < x.interests(); i++) {
            text.append(x.rest(i)).append('+').append(x.madeGood(i)).append(' ');
        }
        return text.toString().trim();
    }

    private static String shares(Averagehall x) {
        StringBuilder text = new StringBuilder();
        for (int i = 0; i < x.interests(); i++) {
            text.append(x.share(i, false)).append(' ');
        }
        return text.toString().trim();
    }

    private static String balanceRow(Averagehall x) {
        StringBuilder text = new StringBuilder();
        for (int i = 0; i < x.interests(); i++) {
            text.append(x.balance(i)).append(' ');
        }
        return text.toString().trim();
    }

    private static void nothingTold() {
        Check.eq("no papers: average", new Averagehall().average(), 0);
        Check.eq("no papers: interests", new Averagehall().interests(), 0);
        Averagehall x = Check.opened(0);
        Check.eq("no facts: average", x.average(), 0);
        x.expense('f', 0, 1, 0);
        x.peril('g', 0, 1, 0);
        Check.eq("no interests: average", x.average(), 0);
        Check.eq("interests alone", withInterests(5, 6).average() + " " + shares(withInterests(5, 6)), "0 0 0");
        Check.eq("interests alone", rests(withInterests(5, 6)), "5+0 6+0");
    }

    private static void askAll(String what, Averagehall x, int interest) {
        Check.fails(what + " rest " + interest, Check.IOOBE, () -> x.rest(interest));
        Check.fails(what + " madeGood " + interest, Check.IOOBE, () -> x.madeGood(interest));
        Check.fails(what + " share " + interest, Check.IOOBE, () -> x.share(interest, false));
        Check.fails(what + " share of salvage " + interest, Check.IOOBE, () -> x.share(interest, true));
        Check.fails(what + " balance " + interest, Check.IOOBE, () -> x.balance(interest));
        Check.fails(what + " due " + interest, Check.IOOBE, () -> x.due(interest));
    }

    private static void noSuchInterest() {
        askAll("none", new Averagehall(), 0);
        Averagehall x = withInterests(10, 20);
        for (int interest : new int[] {-1, 2, 200, Integer.MIN_VALUE, Integer.MAX_VALUE}) {
            askAll("two", x, interest);
        }
        Check.eq("the last one", x.rest(1), 20);
        x.asOf(4);
        askAll("none yet", x, 0);
        Averagehall y = Check.opened(0);
        for (int i = 0; i < 200; i++) {
            y.interest(i + 1);
        }
        Check.eq("the 200th", y.interests() + " " + y.rest(199) + " " + y.madeGood(199) + " " + y.share(199, false)
                + " " + y.share(199, true) + " " + y.balance(199) + " " + y.due(199), "200 200 0 0 0 0 0");
        askAll("two hundred", y, 200);
    }

    private static void interests() {
        Averagehall x = withInterests(10, 20);
        x.paper(3);
        x.interest(30);
        Check.eq("interests", x.interests(), 3);
        Check.eq("as they were told", rests(x), "10+0 20+0 30+0");
        x.asOf(4);
        Check.eq("interests as of 4", x.interests(), 1);
        Check.eq("numbered by those that count", rests(x), "30+0");
        x.peril('g', 0, 4, 0);
        Check.eq("a peril of the one that has the number", rests(x), "26+4");
        x.asOf(999);
        Check.eq("a peril of the one that has the number", rests(x), "6+4 20+0 30+0");
        x.asOf(2);
        Check.eq("interests as of 2", x.interests(), 0);
    }

    private static void leastAndMostValue() {
        Averagehall x = withInterests(1, MOST);
        Check.eq("1 and 100000", rests(x), "1+0 100000+0");
        x.peril('g', 0, MOST, 0);
        x.peril('g', 1, MOST - 1, 0);
        Check.eq("the least left", rests(x), "0+1 1+99999");
        Check.eq("contribute in full", x.average() + " " + shares(x), "100000 1 99999");
    }

    private static void perils() {
        Averagehall x = withInterests(100, 200);
        x.peril('l', 0, 30, 50);
        Check.eq("lost by itself", rests(x), "70+0 200+0");
        x.peril('g', 0, 80, 60);
        Check.eq("at most the rest", rests(x), "0+70 200+0");
        x.peril('g', 0, 20, 40);
        Check.eq("by hours", rests(x), "0+70 200+0");
        x.peril('g', 0, 20, 70);
        Check.eq("nothing is left", rests(x), "0+70 200+0");
        x.peril('l', 0, 60, 39);
        Check.eq("an earlier loss", rests(x), "0+20 200+0");
        x.peril('g', 1, 1, 4799);
        Check.eq("another interest", rests(x), "0+20 199+1");
    }

    /** "Either is at most the rest, which becomes less by it". */
    private static void atMostTheRest() {
        int[][] amountRestMadeGood = {{1, 99, 1}, {98, 2, 98}, {99, 1, 99}, {100, 0, 100}, {101, 0, 100}, {MOST, 0, 100}};
        for (int[] row : amountRestMadeGood) {
            Averagehall x = withInterests(100, 7);
            x.peril('g', 0, row[0], 3);
            Check.eq("given up " + row[0], rests(x), row[1] + "+" + row[2] + " 7+0");
            x.peril('g', 0, 100, 4);
            Check.eq("the rest given up behind it", rests(x), "0+100 7+0");
            Averagehall y = withInterests(100, 7);
            y.peril('l', 0, row[0], 3);
            Check.eq("lost " + row[0], rests(y), row[1] + "+0 7+0");
            y.peril('g', 0, 100, 4);
            Check.eq("the rest given up behind it", rests(y), "0+" + row[1] + " 7+0");
        }
    }

    /** "By their hours, of the same hour as they were told". */
    private static void byTheirHours() {
        int[][] lostAndGiven = {{5, 5, 0}, {5, 6, 0}, {5, 4, 100}, {0, 1, 0}, {1, 0, 100}, {0, 0, 0}, {4798, 4799, 0},
            {4799, 4798, 100}, {4799, 4799, 0}, {0, 4799, 0}, {4799, 0, 100}, {23, 24, 0}, {24, 23, 100}};
        for (int[] row : lostAndGiven) {
            Averagehall y = withInterests(100, 1);
            y.peril('l', 0, 100, row[0]);
            y.peril('g', 0, 100, row[1]);
            Check.eq("lost at " + row[0] + ", then told as given up at " + row[1], rests(y), "0+" + row[2] + " 1+0");
        }
        Averagehall z = withInterests(100, 1);
        z.peril('g', 0, 100, 5);
        z.peril('l', 0, 100, 5);
        Check.eq("of the same hour as they were told", rests(z), "0+100 1+0");
        z.paper(2);
        z.peril('l', 0, 90, 5);
        Check.eq("as they were told, not by days", rests(z), "0+100 1+0");
        z.peril('l', 0, 90, 4);
        Check.eq("by hours", rests(z), "0+10 1+0");
        Averagehall many = withInterests(MOST, 1);
        for (int hour = 150; hour > 0; hour--) {
            many.peril(hour % 2 == 0 ? 'g' : 'l', 0, 2 * hour, hour);
        }
        many.peril('l', 0, MOST, 100);
        Check.eq("of 151 those up to the hour 100", rests(many), "0+" + 2 * (2 + 100) * 25 + " 1+0");
    }

    /** "One of an interest that there is not, as of a day, does not count". */
    private static void perilsOfNobody() {
        Averagehall x = withInterests(100);
        x.peril('g', 1, 7, 5);
        Check.eq("no such interest", x.average(), 0);
        x.interest(9);
        Check.eq("now there is", x.average() + " " + rests(x), "7 100+0 2+7");
        x.asOf(4);
        Check.eq("as of 4", x.average(), 0);
        for (int interest = 2; interest <= 19; interest++) {
            Averagehall far = withInterests(100, 50);
            far.peril('g', interest, 40, 0);
            far.peril('l', interest, 40, 0);
            Check.eq("far beyond the interests, " + interest, far.average() + " " + rests(far), "0 100+0 50+0");
        }
        Averagehall y = Check.opened(3);
        for (int i = 0; i < 19; i++) {
            y.interest(10);
        }
        y.peril('g', 19, 4, 0);
        y.peril('g', 18, 3, 0);
        Check.eq("the last one of 19", y.average() + " " + y.rest(18), "3 7");
        y.paper(5);
        y.interest(10);
        Check.eq("the last one of 20", y.average() + " " + y.rest(19), "7 6");
        y.asOf(4);
        Check.eq("as of 4 there are 19", y.average() + " " + y.interests(), "3 19");
        y.asOf(999);
        y.interest(10);
        Check.eq("a 21st one", y.average() + " " + y.rest(20), "7 10");
    }

    /** "If all rests are 0, nobody contributes, and nothing is made good". */
    private static void allLost() {
        Averagehall x = withInterests(100, 50);
        x.peril('g', 0, 40, 1);
        x.expense('f', 1, 60, 0);
        Check.eq("shares", shares(x), "67 33");
        x.peril('l', 0, 60, 2);
        Check.eq("one rest is left", rests(x), "0+40 50+0");
        Check.eq("a rest of 0 contributes by what is made good", shares(x), "44 56");
        x.peril('l', 1, 50, 2);
        Check.eq("nothing is made good", rests(x), "0+0 0+0");
        Check.eq("expenses stand", x.average(), 60);
        Check.eq("nobody contributes", shares(x), "0 0");
        Check.eq("balances", balanceRow(x), "0 -60");
        Check.eq("consistent", x.isConsistent(), true);
        Averagehall y = withInterests(10);
        y.peril('g', 0, 10, 0);
        Check.eq("all is given up", rests(y) + " " + y.average() + " " + shares(y) + " " + balanceRow(y), "0+0 0 0 0");
    }

    private static void allButOneCoinLost() {
        Averagehall x = withInterests(100, 50);
        x.peril('g', 0, 100, 1);
        x.peril('l', 1, 49, 2);
        Check.eq("one coin is left", rests(x) + " " + x.average() + " " + shares(x), "0+100 1+0 100 99 1");
        x.peril('l', 1, 1, 3);
        Check.eq("no coin is left", rests(x) + " " + x.average() + " " + shares(x), "0+0 0+0 0 0 0");
    }

    private static long one(char kind, int amount, int day, int rules, int hundredths, int endHour) {
        Averagehall x = withInterests(100);
        x.clause('y', rules, false);
        x.clause('i', hundredths, false);
        if (kind == 's') {
            x.substitute(0, amount, MOST, day);
        } else {
            x.expense(kind, 0, amount, day);
        }
        if (endHour >= 0) {
            x.moment('e', endHour);
        }
        return x.average();
    }

    private static void expensesLetIn() {
        String kinds = "pfrws";
        int[][] byRules = {{102, 100, 102, 100, 100}, {102, 100, 102, 0, 100}, {100, 100, 0, 0, 100}};
        int[][] withInterest = {{112, 110, 112, 110, 110}, {112, 110, 112, 0, 110}, {110, 110, 0, 0, 110}};
        for (int rules = 1; rules <= 3; rules++) {
            for (int kind = 0; kind < kinds.length(); kind++) {
                String what = "rules " + rules + ", kind " + kinds.charAt(kind);
                Check.eq(what, one(kinds.charAt(kind), 100, 0, rules, 365, -1), byRules[rules - 1][kind]);
                Check.eq(what + ", interest for 10 days", one(kinds.charAt(kind), 100, 0, rules, 365, 240),
                        withInterest[rules - 1][kind]);
            }
        }
        Averagehall x = withInterests(100);
        x.expense('p', 0, 100, 0);
        Check.eq("the rules 2 at first", x.average(), 102);
        x.expense('w', 0, 100, 0);
        Check.eq("the rules 2 at first", x.average(), 102);
        x.clause('y', 1, true);
        Check.eq("the rules 1", x.average(), 202);
        x.strike(3);
        Check.eq("the rules 2 again", x.average(), 102);
    }

    /** "One of a payer that there is not, as of a day, does not count". */
    private static void expensesOfNobody() {
        Averagehall x = withInterests(100);
        x.expense('f', 1, 5, 0);
        x.substitute(1, 9, 9, 0);
        Check.eq("no such payer", x.average(), 0);
        x.expense('f', 0, 30, 0);
        Check.eq("one of them", x.average(), 30);
        x.interest(1);
        Check.eq("there is a second payer", x.average(), 44);
        x.asOf(4);
        Check.eq("as of 4", x.average(), 0);
        for (int payer = 2; payer <= 19; payer++) {
            Averagehall far = withInterests(100, 50);
            far.expense('f', payer, 40, 0);
            far.substitute(payer, 40, 40, 0);
            Check.eq("far beyond the payers, " + payer, far.average() + " " + balanceRow(far), "0 0 0");
            Check.eq("consistent", far.isConsistent(), true);
        }
        Averagehall y = Check.opened(3);
        for (int i = 0; i < 19; i++) {
            y.interest(10);
        }
        y.expense('f', 19, 4, 0);
        y.substitute(19, 6, 5, 0);
        y.expense('f', 18, 3, 0);
        y.substitute(18, 6, 2, 0);
        Check.eq("the last one of 19", y.average() + " " + y.balance(18), "5 -5");
        y.paper(5);
        y.interest(10);
        Check.eq("the last one of 20", y.average() + " " + y.balance(18) + " " + y.balance(19), "14 -5 -9");
        y.asOf(4);
        Check.eq("as of 4 there are 19", y.average(), 5);
    }

    /** "2 hundredths, rounded down, are added for 'p' and 'r'". */
    private static void hundredths() {
        int[][] amountAndAdded = {{1, 0}, {49, 0}, {50, 1}, {51, 1}, {99, 1}, {100, 2}, {149, 2}, {150, 3}, {MOST, 2000}};
        for (int[] row : amountAndAdded) {
            for (int rules = 1; rules <= 2; rules++) {
                Check.eq("for a port of " + row[0], one('p', row[0], 0, rules, 0, -1), row[0] + row[1]);
                Check.eq("for a repair of " + row[0], one('r', row[0], 0, rules, 0, -1), row[0] + row[1]);
                Check.eq("not for fuel", one('f', row[0], 0, rules, 0, -1), row[0]);
                Check.eq("not for one in place", one('s', row[0], 0, rules, 0, -1), row[0]);
            }
            Check.eq("not for wages", one('w', row[0], 0, 1, 0, -1), row[0]);
            Check.eq("not by the rules 3", one('p', row[0], 0, 3, 0, -1), row[0]);
        }
        Averagehall x = withInterests(100);
        x.expense('p', 0, 49, 0);
        x.expense('r', 0, 49, 0);
        x.expense('p', 0, 49, 0);
        Check.eq("for each", x.average(), 147);
    }

    /** "For the days from its day to that of the end, at least 0, and 0 if the end was not told". */
    private static void interestOnExpenses() {
        int[][] dayEndDays = {{0, -1, 0}, {0, 0, 0}, {0, 23, 0}, {0, 24, 1}, {0, 47, 1}, {0, 48, 2}, {1, 0, 0}, {1, 24, 0},
            {1, 48, 1}, {60, 2400, 40}, {60, 2399, 39}, {60, 2423, 40}, {99, 2400, 1}, {100, 2400, 0}, {101, 2400, 0},
            {199, 0, 0}, {0, 4799, 199}, {0, 4775, 198}, {198, 4799, 1}, {199, 4799, 0}};
        for (int[] row : dayEndDays) {
            for (int rules = 1; rules <= 3; rules++) {
                Check.eq("the day " + row[0] + ", the end at " + row[1], one('f', 36500, row[0], rules, 1, row[1]),
                        36500 + row[2]);
                Check.eq("in place, the day " + row[0] + ", the end at " + row[1], one('s', 36500, row[0], rules, 1, row[1]),
                        36500 + row[2]);
            }
            Check.eq("without the 2 hundredths", one('p', 36500, row[0], 2, 1, row[1]), 36500 + 730 + row[2]);
            Check.eq("wages by the rules 2", one('w', 36500, row[0], 2, 1, row[1]), 0);
        }
        Averagehall x = withInterests(100);
        x.expense('f', 0, 36500, 0);
        x.moment('f', 48);
        x.moment('d', 72);
        x.moment('g', 96);
        Check.eq("other moments are no end", x.average(), 36500);
        x.moment('e', 24);
        Check.eq("7 hundredths at first", x.average(), 36507);
        x.paper(4);
        x.moment('e', 4799);
        Check.eq("the end by an earlier paper", x.average(), 36507);
        x.paper(5);
        x.moment('e', 48);
        Check.eq("the end by a paper of the same day", x.average(), 36514);
    }

    private static void interestRoundedDown() {
        int[][] amountAndInterest = {{1, 0}, {36499, 0}, {36500, 1}, {36501, 1}, {72999, 1}, {73000, 2}, {MOST, 2}};
        for (int[] row : amountAndInterest) {
            Check.eq("for a day on " + row[0], one('f', row[0], 0, 2, 1, 24), row[0] + row[1]);
        }
        Check.eq("no hundredths", one('f', MOST, 0, 2, 0, 4799), MOST);
        Check.eq("the most", one('f', MOST, 0, 2, 9999, 4799), MOST + 100000L * 9999 * 199 / 36500);
        Averagehall x = withInterests(100);
        x.moment('e', 24);
        for (int i = 0; i < 5; i++) {
            x.expense('f', 0, 5213, 0);
        }
        Check.eq("for each by itself", x.average(), 5 * 5213);
        x.expense('f', 0, 5215, 0);
        Check.eq("for each by itself", x.average(), 5 * 5213 + 5216);
    }

    /** "Let in up to what it saved, by all rules". */
    private static void substitutes() {
        int[][] amountSavedLetIn = {{500, 0, 0}, {500, 1, 1}, {500, 499, 499}, {500, 500, 500}, {500, 501, 500},
            {1, 0, 0}, {1, 1, 1}, {1, MOST, 1}, {MOST, 0, 0}, {MOST, MOST, MOST}, {MOST, MOST - 1, MOST - 1}};
        for (int rules = 1; rules <= 3; rules++) {
            for (int[] row : amountSavedLetIn) {
                Averagehall x = withInterests(100, 100);
                x.clause('y', rules, false);
                x.substitute(1, row[0], row[1], 0);
                Check.eq("made for " + row[0] + ", saved " + row[1], x.average(), row[2]);
                Check.eq("who paid it", x.balance(1), row[2] / 2 - row[2]);
            }
            Averagehall y = withInterests(100, 100);
            y.clause('y', rules, false);
            y.substitute(1, 500, 300, 0);
            y.clause('i', 365, false);
            y.moment('e', 24 * 10);
            Check.eq("interest on what is let in", y.average(), 330);
            y.substitute(0, 500, 700, 0);
            Check.eq("interest on what is let in", y.average(), 330 + 550);
        }
    }

    private static void sharing() {
        Averagehall x = withInterests(1, 1, 1);
        Check.eq("no coin", shares(x), "0 0 0");
        x.expense('f', 2, 1, 0);
        Check.eq("one coin to the lowest number", shares(x), "1 0 0");
        x.expense('f', 2, 1, 0);
        Check.eq("two coins", shares(x), "1 1 0");
        x.expense('f', 2, 1, 0);
        Check.eq("three coins", shares(x), "1 1 1");
        Averagehall y = withInterests(1);
        y.expense('f', 0, 77, 0);
        Check.eq("one interest bears all", shares(y) + " " + balanceRow(y), "77 0");
        Averagehall w = withInterests(99999, 99998, 3);
        w.expense('f', 0, 99991, 0);
        Check.eq("products of more than 32 bits", shares(w), "49995 49995 1");
    }

    /** "One coin each goes to those whose remainders are greatest, of the same to the lower numbers". */
    private static void greatestRemainders() {
        Averagehall y = withInterests(100, 200, 300);
        y.expense('f', 0, 100, 0);
        Check.eq("the greatest remainder", shares(y), "17 33 50");
        y.expense('f', 0, 1, 0);
        Check.eq("of the same to the lower number", shares(y), "17 34 50");
        Averagehall z = withInterests(300, 200, 100);
        z.expense('f', 0, 100, 0);
        Check.eq("the greatest remainder, the last one", shares(z), "50 33 17");
        z.peril('l', 1, 200, 0);
        Check.eq("by the rests", shares(z), "75 0 25");
        z.peril('g', 0, 150, 0);
        Check.eq("by the rests and what is made good", shares(z), "188 0 62");
        Averagehall v = withInterests(10, 30, 30, 30);
        v.expense('f', 0, 2, 0);
        Check.eq("two of three alike", shares(v), "0 1 1 0");
        Averagehall u = withInterests(50, 10, 40, 10);
        u.expense('f', 0, 3, 0);
        Check.eq("remainders, not shares", shares(u), "2 0 1 0");
    }

    /** Shares of a small whole, reckoned by giving each coin in its turn. */
    private static String due(long whole, int... weights) {
        long all = 0;
        for (int weight : weights) {
            all += weight;
        }
        long[] shares = new long[weights.length];
        long[] remainders = new long[weights.length];
        long left = whole;
        for (int i = 0; i < weights.length; i++) {
            shares[i] = whole * weights[i] / all;
            remainders[i] = whole * weights[i] % all;
            left -= shares[i];
        }
        StringBuilder text = new StringBuilder();
        for (int i = 0; i < weights.length; i++) {
            int ahead = 0;
            for (int j = 0; j < weights.length; j++) {
                ahead += remainders[j] > remainders[i] || remainders[j] == remainders[i] && j < i ? 1 : 0;
            }
            text.append(shares[i] + (ahead < left ? 1 : 0)).append(' ');
        }
        return text.toString().trim();
    }

    private static void coinsForAllButOne() {
        int[] alike = new int[20];
        java.util.Arrays.fill(alike, 7);
        for (int coins = 1; coins <= 41; coins++) {
            Averagehall x = withInterests(alike);
            x.expense('f', 0, coins, 0);
            Check.eq("20 alike share " + coins, shares(x), due(coins, alike));
        }
    }

    private static void sharesTogether() {
        int[] values = {1, 99999, 77, 77, 100000, 3, 501};
        for (int amount : new int[] {1, 2, 3, 6, 7, 100, 999, 54321, 99999, 100000}) {
            Averagehall x = withInterests(values);
            x.expense('f', 3, amount, 0);
            Check.eq("shares of " + amount, shares(x), due(amount, values));
        }
    }

    private static void theMost() {
        Averagehall x = withInterests(MOST, 1);
        x.clause('i', 9999, false);
        x.clause('y', 1, false);
        x.moment('e', 4799);
        int count = 0;
        while (x.facts() < 200) {
            x.expense('p', 1, MOST, 0);
            count++;
        }
        long each = 100000 + 2000 + 100000L * 9999 * 199 / 36500;
        long whole = count * each;
        Check.eq("the most", x.average(), whole);
        long low = whole / 100001;
        long small = (whole % 100001) * 2 > 100001 ? low + 1 : low;
        Check.eq("share", x.share(0, false), whole - small);
        Check.eq("share", x.share(1, false), small);
        Check.eq("balance", x.balance(1), small - whole);
        Check.eq("due", x.due(0), whole - small);
        Check.eq("mean", x.meanBalance(), (double) (2 * (whole - small)) / 2);
        Check.eq("consistent", x.isConsistent(), true);
    }

    private static void theFirstFact() {
        Averagehall x = Check.opened(0);
        x.peril('g', 0, 3, 0);
        x.interest(10);
        Check.eq("a peril as the first fact", rests(x), "7+3");
        Averagehall y = Check.opened(0);
        y.expense('f', 0, 3, 0);
        y.interest(10);
        Check.eq("an expense as the first fact", y.average(), 3);
    }

    private static void backToAnEarlierDay() {
        Averagehall x = withInterests(10);
        x.peril('g', 0, 4, 1);
        x.peril('l', 0, 6, 2);
        x.expense('f', 0, 7, 0);
        x.paper(6);
        x.interest(100);
        x.expense('f', 1, 50, 0);
        x.peril('g', 1, 20, 0);
        Check.eq("with the later paper", rests(x) + " " + x.average() + " " + balanceRow(x), "0+4 80+20 81 -8 8");
        x.asOf(5);
        Check.eq("all that there is is lost", rests(x) + " " + x.average() + " " + balanceRow(x), "0+0 7 -7");
        x.asOf(6);
        Check.eq("with it", rests(x) + " " + x.average() + " " + balanceRow(x), "0+4 80+20 81 -8 8");
    }

    private static Averagehall lively() {
        Averagehall x = withInterests(1000, 500);
        x.clause('y', 3, false);
        x.peril('g', 1, 90, 1);
        x.award(30, 0);
        x.expense('p', 0, 45, 0);
        return x;
    }

    /** No call may lean on another one that was asked ahead of it. */
    private static void eachAskedFirst() {
        Check.eq("rest", lively().rest(1), 410);
        Check.eq("madeGood", lively().madeGood(1), 90);
        Check.eq("average", lively().average(), 135);
        Check.eq("share", lively().share(0, false), 90);
        Check.eq("share of salvage", lively().share(0, true), 20);
        Check.eq("balance", lively().balance(0), 90 + 20 - 45);
        Check.eq("due", lively().due(0), 65);
        Check.eq("goodShare", lively().goodShare(), 90f / 135f);
        Check.eq("meanBalance", lively().meanBalance(), (65 + 35) / 2d);
        Check.eq("isConsistent", lively().isConsistent(), true);
    }
}

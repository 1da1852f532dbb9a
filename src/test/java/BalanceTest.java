/** Promises 23 and 27 to 30: the award and its shares, balances, deposits, what is due. */
public final class BalanceTest {
    private static final int MOST = 100000;

    public static void main(String[] args) {
        awardAsExpense();
        noShip();
        awardShared();
        aheadOfItsHour();
        theFirstAndTheLastHour();
        allRestsAreZero();
        awardToldAgain();
        awardCoins();
        greatAwards();
        balances();
        whatIsNotLetIn();
        balancesTogether();
        deposits();
        dueRoundZero();
        depositsOfNobody();
        manyDeposits();
        oneCoin();
        theFirstFact();
        Check.end("BalanceTest");
    }

    private static Averagehall withInterests(int rules, int... values) {
        Averagehall x = Check.opened(5);
        x.clause('y', rules, false);
        for (int value : values) {
            x.interest(value);
        }
        return x;
    }

    private static String shares(Averagehall x, boolean ofSalvage) {
        StringBuilder text = new StringBuilder();
        for (int i = 0; i < x.interests(); i++) {
            text.append(x.share(i, ofSalvage)).append(' ');
        }
        return text.toString().trim();
    }

    private static String balanceRow(Averagehall x) {
        StringBuilder text = new StringBuilder();
        for (int i = 0; i < x.interests(); i++) {
            text.append(x.balance(i)).append(' ');
        }
        return text.toString().trim();
    }

    private static String dues(Averagehall x) {
        StringBuilder text = new StringBuilder();
        for (int i = 0; i < x.interests(); i++) {
            text.append(x.due(i)).append(' ');
        }
        return text.toString().trim();
    }

    /** "By the rules 1 and 2, an expense of the ship that is let in, without anything added". */
    private static void awardAsExpense() {
        for (int rules = 1; rules <= 2; rules++) {
            Averagehall x = withInterests(rules, 100, 50);
            x.award(150, 10);
            x.moment('e', 4799);
            x.clause('i', 9999, true);
            Check.eq("nothing is added, rules " + rules, x.average(), 150);
            Check.eq("shares, rules " + rules, shares(x, false), "100 50");
            Check.eq("of salvage, rules " + rules, shares(x, true), "0 0");
            Check.eq("of the ship, rules " + rules, balanceRow(x), "-50 50");
            x.peril('l', 1, 50, 0);
            Check.eq("by the rests in the end, rules " + rules, shares(x, false), "150 0");
        }
        Averagehall x = Check.opened(0);
        x.interest(100);
        x.interest(50);
        x.award(31, 10);
        Check.eq("the rules 2 at first", x.average() + " " + balanceRow(x), "31 -10 10");
    }

    private static void noShip() {
        for (int rules = 1; rules <= 3; rules++) {
            Averagehall x = withInterests(rules);
            x.award(150, 10);
            Check.eq("no ship, rules " + rules, x.average() + " " + x.isConsistent(), "0 true");
            x.paper(6);
            x.interest(1);
            Check.eq("a ship, rules " + rules, x.average() + " " + x.share(0, false) + " " + x.share(0, true),
                    rules < 3 ? "150 150 0" : "0 0 150");
            x.asOf(5);
            Check.eq("no ship as of 5, rules " + rules, x.average(), 0);
        }
    }

    private static void awardShared() {
        Averagehall x = withInterests(3, 100, 50);
        Check.eq("no award", shares(x, true), "0 0");
        x.award(31, 10);
        Check.eq("no average", x.average() + " " + shares(x, false), "0 0 0");
        Check.eq("of salvage", shares(x, true), "21 10");
        Check.eq("balances", balanceRow(x), "21 10");
        x.moment('e', 4799);
        Check.eq("nothing is added", shares(x, true), "21 10");
        x.clause('y', 2, true);
        Check.eq("of salvage by the rules 2", shares(x, true), "0 0");
        x.clause('y', 1, true);
        Check.eq("of salvage by the rules 1", shares(x, true), "0 0");
    }

    /** "By the rests as they were ahead of its hour". */
    private static void aheadOfItsHour() {
        Averagehall x = withInterests(3, 100, 50);
        x.award(30, 10);
        x.peril('l', 0, 100, 11);
        Check.eq("an hour behind it", shares(x, true), "20 10");
        x.peril('l', 0, 100, 10);
        Check.eq("of its own hour", shares(x, true), "20 10");
        x.peril('l', 0, 50, 9);
        Check.eq("an hour ahead of it", shares(x, true), "15 15");
        x.peril('g', 1, 50, 9);
        Check.eq("what was given up is no rest", shares(x, true), "30 0");
        x.peril('l', 1, 50, 8);
        Check.eq("two hours ahead of it", shares(x, true), "30 0");
        Averagehall y = withInterests(3, 100, 50);
        y.peril('g', 0, 50, 10);
        y.award(30, 10);
        Check.eq("of its own hour, told earlier", shares(y, true), "20 10");
        y.award(30, 11);
        Check.eq("an hour later", shares(y, true), "15 15");
    }

    private static void theFirstAndTheLastHour() {
        Averagehall x = withInterests(3, 100, 50);
        x.peril('l', 0, 50, 0);
        x.award(30, 0);
        Check.eq("nothing is ahead of the hour 0", shares(x, true), "20 10");
        x.award(30, 1);
        Check.eq("the hour 0 is ahead of 1", shares(x, true), "15 15");
        x.peril('l', 1, 50, 4799);
        x.award(30, 4799);
        Check.eq("of the last hour", shares(x, true), "15 15");
        x.peril('l', 1, 50, 4798);
        Check.eq("of the last hour but one", shares(x, true), "30 0");
    }

    /** "If all are 0, all shares are 0". */
    private static void allRestsAreZero() {
        Averagehall x = withInterests(3, 100, 50);
        x.award(30, 10);
        x.peril('g', 0, 100, 9);
        x.peril('l', 1, 49, 9);
        Check.eq("one coin is left", shares(x, true), "0 30");
        Check.eq("consistent", x.isConsistent(), true);
        x.peril('l', 1, 1, 9);
        Check.eq("all are 0", shares(x, true) + " " + balanceRow(x), "0 0 0 0");
        Check.eq("consistent", x.isConsistent(), true);
        Averagehall y = withInterests(3, 100, 50);
        y.award(30, 10);
        y.peril('g', 0, 100, 10);
        y.peril('l', 1, 50, 10);
        Check.eq("all are 0 in the end, not ahead of its hour", shares(y, true) + " " + balanceRow(y), "20 10 20 10");
        Check.eq("consistent", y.isConsistent(), true);
    }

    /** "In place of one told by a fact with a lower number", whatever the days of their papers. */
    private static void awardToldAgain() {
        for (int rules = 1; rules <= 3; rules++) {
            Averagehall x = withInterests(rules, 100, 50);
            boolean ofSalvage = rules == 3;
            x.award(60, 20);
            x.award(30, 10);
            Check.eq("told again", shares(x, ofSalvage), "20 10");
            x.peril('l', 1, 50, 15);
            Check.eq("with its hour", shares(x, ofSalvage), rules == 3 ? "20 10" : "30 0");
            x.paper(2);
            x.award(6, 0);
            Check.eq("by numbers of facts, not by days", shares(x, ofSalvage), rules == 3 ? "4 2" : "6 0");
            x.paper(7);
            x.award(9, 0);
            Check.eq("and again", shares(x, ofSalvage), rules == 3 ? "6 3" : "9 0");
            x.asOf(6);
            Check.eq("what does not count yet takes no place", shares(x, ofSalvage), rules == 3 ? "4 2" : "6 0");
        }
    }

    private static void awardCoins() {
        Averagehall x = withInterests(3, 1, 1, 1);
        String[] due = {"1 0 0", "1 1 0", "1 1 1", "2 1 1"};
        for (int coins = 1; coins <= 4; coins++) {
            x.award(coins, 10);
            Check.eq("three alike share " + coins, shares(x, true), due[coins - 1]);
        }
        Averagehall y = withInterests(3, 10, 30, 30, 20);
        y.award(2, 0);
        Check.eq("to the greatest remainders", shares(y, true), "0 1 1 0");
    }

    /** Products that do not fit into 32 bits. */
    private static void greatAwards() {
        Averagehall x = withInterests(3, MOST, MOST, 99998);
        x.award(MOST, 0);
        Check.eq("100000 by 299998", shares(x, true), "33334 33333 33333");
        Check.eq("balances", balanceRow(x), "33334 33333 33333");
        x.clause('y', 1, true);
        Check.eq("the ship's", balanceRow(x), (33334 - MOST) + " 33333 33333");
    }

    private static void balances() {
        Check.fails("nothing told", Check.IOOBE, () -> new Averagehall().balance(0));
        Averagehall none = withInterests(2, 7);
        Check.eq("an interest alone", balanceRow(none) + " " + dues(none), "0 0");
        Averagehall x = withInterests(3, 1000, 2000);
        x.peril('g', 1, 500, 100);
        x.expense('p', 0, 101, 3);
        x.expense('w', 0, 999, 3);
        x.award(60, 50);
        Check.eq("average", x.average(), 601);
        Check.eq("shares", shares(x, false), "200 401");
        Check.eq("salvage", shares(x, true), "20 40");
        Check.eq("balances", balanceRow(x), (200 + 20 - 101) + " " + (401 + 40 - 500));
        x.clause('y', 1, false);
        Check.eq("rules 1", x.average(), 500 + 103 + 999 + 60);
        Check.eq("rules 1", balanceRow(x), (554 - 1162) + " " + (1108 - 500));
    }

    /** "The expenses that it paid, as far as they are let in, with what is added". */
    private static void whatIsNotLetIn() {
        int[][] kindAndBalances = {{'p', -51, -51, -50}, {'f', -50, -50, -50}, {'r', -51, -51, 0}, {'w', -50, 0, 0}};
        for (int[] row : kindAndBalances) {
            for (int rules = 1; rules <= 3; rules++) {
                Averagehall x = withInterests(rules, 10, 10);
                x.expense((char) row[0], 1, 100, 0);
                Check.eq("paid for " + (char) row[0] + ", rules " + rules, x.balance(1), row[rules]);
                Check.eq("borne for " + (char) row[0] + ", rules " + rules, x.balance(0), -row[rules]);
            }
        }
        Averagehall x = withInterests(2, 10, 10);
        x.substitute(1, 100, 60, 0);
        Check.eq("up to what it saved", balanceRow(x), "30 -30");
        x.clause('i', 365, false);
        x.moment('e', 240);
        Check.eq("with interest", balanceRow(x), "33 -33");
        x.peril('l', 0, 10, 0);
        x.peril('l', 1, 10, 0);
        Check.eq("if nobody contributes", balanceRow(x), "0 -66");
    }

    private static void balancesTogether() {
        Averagehall x = withInterests(3, 1, 99999, 77, 77, MOST, 3);
        x.peril('g', 1, 5000, 7);
        x.peril('g', 4, 1, 8);
        x.peril('l', 2, 70, 9);
        for (int amount = 1; amount < MOST; amount *= 7) {
            x.expense('f', amount % 5, amount, 0);
            x.award(amount, 8);
            long sum = 0;
            long salvage = 0;
            for (int i = 0; i < 6; i++) {
                sum += x.balance(i);
                salvage += x.share(i, true);
            }
            Check.eq("balances less salvage are 0 together", sum - salvage, 0);
            Check.eq("shares of salvage are the award", salvage, amount);
            Check.eq("consistent", x.isConsistent(), true);
        }
    }

    private static void deposits() {
        Averagehall x = withInterests(2, 1000, 1000);
        x.expense('f', 0, 500, 0);
        Check.eq("due", dues(x), "0 250");
        x.deposit(1, 200);
        Check.eq("less a deposit", dues(x), "0 50");
        x.deposit(1, 60);
        Check.eq("less two", dues(x), "0 -10");
        x.deposit(0, 5);
        x.deposit(7, 9);
        Check.eq("all of it back", dues(x), "-5 -10");
        Check.eq("balances stand", balanceRow(x), "-250 250");
        x.paper(6);
        x.deposit(1, 100);
        Check.eq("due", x.due(1), -110);
        x.asOf(5);
        Check.eq("as of 5", x.due(1), -10);
    }

    /** "Its balance, if it is more than 0, otherwise 0, less its deposits". */
    private static void dueRoundZero() {
        int[][] paidByShipDue = {{0, 0}, {2, 1}, {20, 10}};
        for (int[] row : paidByShipDue) {
            Averagehall x = withInterests(2, 100, 100);
            if (row[0] > 0) {
                x.expense('f', 0, row[0], 0);
            }
            Check.eq("balances", balanceRow(x), (row[1] == 0 ? "0 0" : -row[1] + " " + row[1]));
            Check.eq("without deposits", dues(x), "0 " + row[1]);
            x.deposit(0, 1);
            x.deposit(1, 1);
            Check.eq("less a coin", dues(x), "-1 " + (row[1] - 1));
            x.deposit(1, MOST);
            Check.eq("less the greatest deposit", dues(x), "-1 " + (row[1] - 1 - MOST));
        }
    }

    private static void depositsOfNobody() {
        Averagehall x = withInterests(2, 100);
        x.deposit(1, 9);
        Check.fails("no such interest", Check.IOOBE, () -> x.due(1));
        x.interest(100);
        Check.eq("now there is", dues(x), "0 -9");
        Averagehall y = withInterests(2);
        for (int i = 0; i < 20; i++) {
            y.interest(100);
        }
        y.deposit(19, 7);
        y.deposit(0, 8);
        Check.eq("the first and the last one of 20", y.due(0) + " " + y.due(18) + " " + y.due(19), "-8 0 -7");
        y.interest(100);
        Check.eq("a 21st one", y.due(20), 0);
    }

    private static void manyDeposits() {
        Averagehall x = withInterests(2, 100);
        for (int i = 0; i < 198; i++) {
            x.deposit(0, MOST);
        }
        Check.eq("198 deposits of the most", x.due(0), -198 * MOST);
    }

    private static void oneCoin() {
        Averagehall x = withInterests(3, 1);
        x.expense('f', 0, 77, 0);
        x.award(55, 0);
        Check.eq("a value of 1", shares(x, false) + " " + shares(x, true) + " " + balanceRow(x), "77 55 55");
        Averagehall y = withInterests(3, 1, 1);
        y.award(1, 0);
        Check.eq("the least award", shares(y, true), "1 0");
        y.deposit(0, 1);
        Check.eq("the least deposit", dues(y), "0 0");
    }

    private static void theFirstFact() {
        Averagehall z = Check.opened(0);
        z.award(4, 0);
        z.interest(10);
        Check.eq("an award as the first fact", z.average(), 4);
        Averagehall w = Check.opened(0);
        w.deposit(0, 5);
        w.interest(10);
        Check.eq("a deposit as the first fact", w.due(0), -5);
    }
}

/** Promises 18 to 30: interests, perils, expenses, the award, the average, shares, balances, deposits. */
public final class AverageTest {
    public static void main(String[] args) {
        interestRanges();
        perilRanges();
        expenseRanges();
        substituteRanges();
        awardAndDepositRanges();
        noSuchInterest();
        interests();
        perils();
        allLost();
        expensesLetIn();
        additions();
        substitutes();
        sharing();
        awards();
        balances();
        deposits();
        theMost();
        oneCoin();
        theFirstFact();
        backToAnEarlierDay();
        eachAskedFirst();
        Check.end("AverageTest");
    }

    private static Averagehall withInterests(int... values) {
        Averagehall x = Check.opened(5);
        for (int value : values) {
            x.interest(value);
        }
        return x;
    }

    private static String rests(Averagehall x) {
        StringBuilder text = new StringBuilder();
        for (int i = 0; i < x.interests(); i++) {
            text.append(x.rest(i)).append('+').append(x.madeGood(i)).append(' ');
        }
        return text.toString().trim();
    }

    private static String shares(Averagehall x, boolean ofSalvage) {
        StringBuilder text = new StringBuilder();
        for (int i = 0; i < x.interests(); i++) {
            text.append(x.share(i, ofSalvage)).append(' ');
        }
        return text.toString().trim();
    }

    private static String balanceRow(Averagehall x) {
        StringBuilder text = new StringBuilder();
        for (int i = 0; i < x.interests(); i++) {
            text.append(x.balance(i)).append(' ');
        }
        return text.toString().trim();
    }

    private static void interestRanges() {
        Averagehall x = Check.opened(0);
        Check.eq("interest", x.interest(1), 0);
        Check.eq("interest", x.interest(100000), 1);
        for (int value : new int[] {0, -1, 100001, Integer.MIN_VALUE, Integer.MAX_VALUE}) {
            Check.failsAndKeeps("interest " + value, Check.IAE, x, () -> x.interest(value));
        }
    }

    private static void perilRanges() {
        Averagehall x = withInterests(10);
        Check.eq("peril", x.peril('l', 0, 1, 0), 1);
        Check.eq("peril", x.peril('g', 19, 100000, 4799), 2);
        int[][] wrong = {{-1, 1, 0}, {20, 1, 0}, {0, 0, 0}, {0, -1, 0}, {0, 100001, 0}, {0, 1, -1}, {0, 1, 4800},
            {Integer.MIN_VALUE, 1, 0}, {0, Integer.MAX_VALUE, 0}, {0, 1, Integer.MIN_VALUE}};
        for (int[] row : wrong) {
            Check.failsAndKeeps("peril " + java.util.Arrays.toString(row), Check.IAE, x,
                    () -> x.peril('g', row[0], row[1], row[2]));
        }
        for (char c = 0; c < 300; c++) {
            char kind = c;
            if (c != 'l' && c != 'g') {
                Check.fails("peril of " + (int) c, Check.IAE, () -> x.peril(kind, 0, 1, 0));
            }
        }
    }

    private static void expenseRanges() {
        Averagehall x = withInterests(10);
        Check.eq("expense", x.expense('p', 0, 1, 0), 1);
        Check.eq("expense", x.expense('f', 19, 100000, 199), 2);
        Check.eq("expense", x.expense('r', 0, 1, 0), 3);
        Check.eq("expense", x.expense('w', 0, 1, 0), 4);
        int[][] wrong = {{-1, 1, 0}, {20, 1, 0}, {0, 0, 0}, {0, -1, 0}, {0, 100001, 0}, {0, 1, -1}, {0, 1, 200},
            {Integer.MIN_VALUE, 1, 0}, {0, Integer.MAX_VALUE, 0}, {0, 1, Integer.MIN_VALUE}};
        for (int[] row : wrong) {
            Check.failsAndKeeps("expense " + java.util.Arrays.toString(row), Check.IAE, x,
                    () -> x.expense('p', row[0], row[1], row[2]));
        }
        for (char c = 0; c < 300; c++) {
            char kind = c;
            if ("pfrw".indexOf(c) < 0) {
                Check.fails("expense of " + (int) c, Check.IAE, () -> x.expense(kind, 0, 1, 0));
            }
        }
    }

    private static void substituteRanges() {
        Averagehall x = withInterests(10);
        Check.eq("substitute", x.substitute(0, 1, 0, 0), 1);
        Check.eq("substitute", x.substitute(19, 100000, 100000, 199), 2);
        int[][] wrong = {{-1, 1, 0, 0}, {20, 1, 0, 0}, {0, 0, 0, 0}, {0, 100001, 0, 0}, {0, 1, -1, 0},
            {0, 1, 100001, 0}, {0, 1, 0, -1}, {0, 1, 0, 200}, {Integer.MAX_VALUE, 1, 0, 0},
            {0, Integer.MIN_VALUE, 0, 0}, {0, 1, Integer.MIN_VALUE, 0}, {0, 1, 0, Integer.MAX_VALUE}};
        for (int[] row : wrong) {
            Check.failsAndKeeps("substitute " + java.util.Arrays.toString(row), Check.IAE, x,
                    () -> x.substitute(row[0], row[1], row[2], row[3]));
        }
    }

    private static void awardAndDepositRanges() {
        Averagehall x = withInterests(10);
        Check.eq("award", x.award(1, 0), 1);
        Check.eq("award", x.award(100000, 4799), 2);
        Check.eq("deposit", x.deposit(0, 1), 3);
        Check.eq("deposit", x.deposit(19, 100000), 4);
        for (int amount : new int[] {0, -1, 100001, Integer.MIN_VALUE, Integer.MAX_VALUE}) {
            Check.failsAndKeeps("award " + amount, Check.IAE, x, () -> x.award(amount, 0));
            Check.failsAndKeeps("deposit " + amount, Check.IAE, x, () -> x.deposit(0, amount));
        }
        for (int hour : new int[] {-1, 4800, Integer.MIN_VALUE, Integer.MAX_VALUE}) {
            Check.fails("award at " + hour, Check.IAE, () -> x.award(1, hour));
        }
        for (int interest : new int[] {-1, 20, Integer.MIN_VALUE, Integer.MAX_VALUE}) {
            Check.fails("deposit of " + interest, Check.IAE, () -> x.deposit(interest, 1));
        }
    }

    private static void askAll(String what, Averagehall x, int interest) {
        Check.fails(what + " rest " + interest, Check.IOOBE, () -> x.rest(interest));
        Check.fails(what + " madeGood " + interest, Check.IOOBE, () -> x.madeGood(interest));
        Check.fails(what + " share " + interest, Check.IOOBE, () -> x.share(interest, false));
        Check.fails(what + " share of salvage " + interest, Check.IOOBE, () -> x.share(interest, true));
        Check.fails(what + " balance " + interest, Check.IOOBE, () -> x.balance(interest));
        Check.fails(what + " due " + interest, Check.IOOBE, () -> x.due(interest));
    }

    private static void noSuchInterest() {
        askAll("none", new Averagehall(), 0);
        Averagehall x = withInterests(10, 20);
        for (int interest : new int[] {-1, 2, 200, Integer.MIN_VALUE, Integer.MAX_VALUE}) {
            askAll("two", x, interest);
        }
        Check.eq("the last one", x.rest(1), 20);
        x.asOf(4);
        askAll("none yet", x, 0);
        Averagehall y = Check.opened(0);
        for (int i = 0; i < 200; i++) {
            y.interest(i + 1);
        }
        Check.eq("the 200th", y.rest(199), 200);
        askAll("two hundred", y, 200);
    }

    private static void interests() {
        Averagehall x = withInterests(10, 20);
        x.paper(3);
        x.interest(30);
        Check.eq("interests", x.interests(), 3);
        Check.eq("as they were told", rests(x), "10+0 20+0 30+0");
        x.asOf(4);
        Check.eq("interests as of 4", x.interests(), 1);
        Check.eq("numbered by those that count", rests(x), "30+0");
        x.peril('g', 0, 4, 0);
        Check.eq("a peril of the one that has the number", rests(x), "26+4");
        x.asOf(999);
        Check.eq("a peril of the one that has the number", rests(x), "6+4 20+0 30+0");
        x.asOf(2);
        Check.eq("interests as of 2", x.interests(), 0);
    }

    private static void perils() {
        Averagehall x = withInterests(100, 200);
        x.peril('l', 0, 30, 50);
        Check.eq("lost by itself", rests(x), "70+0 200+0");
        x.peril('g', 0, 80, 60);
        Check.eq("at most the rest", rests(x), "0+70 200+0");
        x.peril('g', 0, 20, 40);
        Check.eq("by hours", rests(x), "0+70 200+0");
        x.peril('g', 0, 20, 70);
        Check.eq("nothing is left", rests(x), "0+70 200+0");
        x.peril('l', 0, 60, 39);
        Check.eq("an earlier loss", rests(x), "0+20 200+0");
        Averagehall y = withInterests(100, 1);
        y.peril('l', 0, 100, 5);
        y.peril('g', 0, 100, 5);
        Check.eq("of the same hour as they were told", rests(y), "0+0 1+0");
        Averagehall z = withInterests(100, 1);
        z.peril('g', 0, 100, 5);
        z.peril('l', 0, 100, 5);
        Check.eq("of the same hour as they were told", rests(z), "0+100 1+0");
        z.paper(2);
        z.peril('l', 0, 90, 5);
        Check.eq("as they were told, not by days", rests(z), "0+100 1+0");
        z.peril('l', 0, 90, 4);
        Check.eq("by hours", rests(z), "0+10 1+0");
        Averagehall w = withInterests(100);
        w.peril('g', 1, 7, 5);
        Check.eq("no such interest", w.average(), 0);
        w.interest(9);
        Check.eq("now there is", w.average(), 7);
        Check.eq("now there is", rests(w), "100+0 2+7");
        w.asOf(4);
        Check.eq("as of 4", w.average(), 0);
    }

    private static void allLost() {
        Averagehall x = withInterests(100, 50);
        x.peril('g', 0, 40, 1);
        x.expense('f', 1, 60, 0);
        Check.eq("shares", shares(x, false), "67 33");
        x.peril('l', 0, 60, 2);
        Check.eq("one rest is left", rests(x), "0+40 50+0");
        Check.eq("a rest of 0 contributes by what is made good", shares(x, false), "44 56");
        x.peril('l', 1, 50, 2);
        Check.eq("nothing is made good", rests(x), "0+0 0+0");
        Check.eq("expenses stand", x.average(), 60);
        Check.eq("nobody contributes", shares(x, false), "0 0");
        Check.eq("balances", balanceRow(x), "0 -60");
        Check.eq("consistent", x.isConsistent(), true);
    }

    private static void expensesLetIn() {
        Averagehall x = withInterests(100);
        x.expense('p', 0, 10, 0);
        x.expense('f', 0, 1000, 0);
        x.expense('w', 0, 100, 0);
        x.expense('r', 0, 30000, 0);
        x.expense('p', 1, 5, 0);
        Check.eq("usual rules", x.average(), 31010 + 600);
        x.clause('y', 1, false);
        Check.eq("rules 1", x.average(), 31110 + 600);
        x.clause('y', 3, false);
        Check.eq("rules 3", x.average(), 1010);
        x.clause('y', 2, false);
        Check.eq("rules 2", x.average(), 31010 + 600);
        x.interest(1);
        Check.eq("there is a second payer", x.average(), 31015 + 600);
        x.asOf(4);
        Check.eq("as of 4", x.average(), 0);
    }

    private static long one(char kind, int amount, int day, int rules, int hundredths, int endHour) {
        Averagehall x = withInterests(100);
        x.clause('y', rules, false);
        x.clause('i', hundredths, false);
        x.expense(kind, 0, amount, day);
        if (endHour >= 0) {
            x.moment('e', endHour);
        }
        return x.average();
    }

    private static void additions() {
        for (int rules = 1; rules <= 2; rules++) {
            Check.eq("2 hundredths for a port", one('p', 150, 0, rules, 0, -1), 153);
            Check.eq("rounded down", one('p', 149, 0, rules, 0, -1), 151);
            Check.eq("rounded down", one('p', 49, 0, rules, 0, -1), 49);
            Check.eq("for a repair", one('r', 150, 0, rules, 0, -1), 153);
            Check.eq("not for fuel", one('f', 150, 0, rules, 0, -1), 150);
            Check.eq("interest for a port, without the hundredths", one('p', 36500, 0, rules, 1, 24 * 100), 37230 + 100);
        }
        Check.eq("not for wages", one('w', 150, 0, 1, 0, -1), 150);
        Check.eq("wages by the rules 2, nor their interest", one('w', 36500, 0, 2, 1, 2400), 0);
        Check.eq("a repair by the rules 3, nor its interest", one('r', 36500, 0, 3, 1, 2400), 0);
        Check.eq("no hundredths by the rules 3", one('p', 150, 0, 3, 0, -1), 150);
        Check.eq("interest by the rules 3", one('p', 36500, 0, 3, 1, 2400), 36600);
        Check.eq("interest on wages", one('w', 36500, 0, 1, 1, 2400), 36600);
        Check.eq("from its day", one('f', 36500, 60, 2, 1, 2400), 36540);
        Check.eq("the day of the end", one('f', 36500, 60, 2, 1, 2400 + 23), 36540);
        Check.eq("the day of the end", one('f', 36500, 60, 2, 1, 2400 - 1), 36539);
        Check.eq("the same day", one('f', 36500, 100, 2, 1, 2423), 36500);
        Check.eq("at least 0", one('f', 36500, 150, 2, 1, 2400), 36500);
        Check.eq("the end was not told", one('f', 36500, 0, 2, 1, -1), 36500);
        Check.eq("rounded down", one('f', 36499, 0, 2, 1, 24), 36499);
        Check.eq("rounded down", one('f', 36500, 0, 2, 1, 24), 36501);
        Check.eq("7 hundredths at first", interestAtFirst(), 36507);
        Check.eq("the most", one('f', 100000, 0, 2, 9999, 4799), 100000 + 100000L * 9999 * 199 / 36500);
        Averagehall x = withInterests(100);
        x.moment('e', 24);
        for (int i = 0; i < 5; i++) {
            x.expense('f', 0, 5213, 0);
        }
        Check.eq("each by itself", x.average(), 5 * 5213);
        x.expense('f', 0, 5215, 0);
        Check.eq("each by itself", x.average(), 5 * 5213 + 5216);
        x.paper(4);
        x.moment('e', 4799);
        Check.eq("the end by an earlier paper", x.average(), 5 * 5213 + 5216);
    }

    private static long interestAtFirst() {
        Averagehall x = withInterests(100);
        x.expense('f', 0, 36500, 0);
        x.moment('e', 24);
        return x.average();
    }

    private static void substitutes() {
        for (int rules = 1; rules <= 3; rules++) {
            Averagehall x = withInterests(100, 100);
            x.clause('y', rules, false);
            x.substitute(1, 500, 300, 0);
            Check.eq("up to what it saved", x.average(), 300);
            x.substitute(1, 500, 700, 0);
            Check.eq("up to itself", x.average(), 800);
            x.substitute(1, 500, 0, 0);
            Check.eq("it saved nothing", x.average(), 800);
            x.substitute(2, 500, 100, 0);
            Check.eq("no such payer", x.average(), 800);
            Check.eq("who paid it", balanceRow(x), "400 -400");
            x.clause('i', 365, false);
            x.moment('e', 24 * 10);
            Check.eq("interest on what is let in", x.average(), 800 + 30 + 50);
        }
    }

    private static void sharing() {
        Averagehall x = withInterests(1, 1, 1);
        x.expense('f', 2, 1, 0);
        Check.eq("one coin to the lowest number", shares(x, false), "1 0 0");
        x.expense('f', 2, 1, 0);
        Check.eq("two coins", shares(x, false), "1 1 0");
        x.expense('f', 2, 1, 0);
        Check.eq("three coins", shares(x, false), "1 1 1");
        Averagehall y = withInterests(100, 200, 300);
        y.expense('f', 0, 100, 0);
        Check.eq("the greatest remainder", shares(y, false), "17 33 50");
        y.expense('f', 0, 1, 0);
        Check.eq("of the same to the lower number", shares(y, false), "17 34 50");
        Averagehall z = withInterests(300, 200, 100);
        z.expense('f', 0, 100, 0);
        Check.eq("the greatest remainder, the last one", shares(z, false), "50 33 17");
        z.peril('l', 1, 200, 0);
        Check.eq("by the rests", shares(z, false), "75 0 25");
        z.peril('g', 0, 150, 0);
        Check.eq("by the rests and what is made good", shares(z, false), "188 0 62");
        Averagehall w = withInterests(99999, 99998, 3);
        w.expense('f', 0, 99991, 0);
        Check.eq("great numbers", shares(w, false), "49995 49995 1");
        Check.eq("no average", shares(withInterests(5, 6), false), "0 0");
        Averagehall none = Check.opened(0);
        none.expense('f', 0, 1, 0);
        Check.eq("no interests", none.average(), 0);
    }

    private static void awards() {
        Averagehall x = withInterests(100, 50);
        x.award(31, 10);
        Check.eq("rules 2: an expense", x.average(), 31);
        Check.eq("rules 2: shares", shares(x, false), "21 10");
        Check.eq("rules 2: of salvage", shares(x, true), "0 0");
        Check.eq("rules 2: of the ship", balanceRow(x), "-10 10");
        x.moment('e', 4799);
        Check.eq("nothing is added", x.average(), 31);
        x.clause('y', 1, false);
        Check.eq("rules 1", x.average(), 31);
        Check.eq("rules 1: of the ship", balanceRow(x), "-10 10");
        x.clause('y', 3, false);
        Check.eq("rules 3", x.average(), 0);
        Check.eq("rules 3: of salvage", shares(x, true), "21 10");
        Check.eq("rules 3: of the average", shares(x, false), "0 0");
        Check.eq("rules 3: balances", balanceRow(x), "21 10");
        x.peril('l', 0, 99, 10);
        Check.eq("of its own hour", shares(x, true), "21 10");
        x.peril('l', 0, 50, 9);
        Check.eq("ahead of its hour", shares(x, true), "16 15");
        x.peril('g', 1, 50, 9);
        Check.eq("what was given up is no rest", shares(x, true), "31 0");
        x.peril('l', 0, 100, 9);
        Check.eq("all are 0", shares(x, true), "0 0");
        Check.eq("all are 0", balanceRow(x), "0 0");
        Check.eq("consistent", x.isConsistent(), true);
        x.award(8, 0);
        Check.eq("told again", shares(x, true), "5 3");
        x.paper(2);
        x.award(9, 0);
        Check.eq("by a fact with a lower number", shares(x, true), "6 3");
        x.asOf(4);
        Check.eq("no interests", x.interests() + " " + x.average(), "0 0");
        x.clause('y', 2, true);
        Check.eq("no ship", x.average(), 0);
        x.interest(7);
        Check.eq("a ship", x.average(), 9);
    }

    private static void balances() {
        Averagehall x = withInterests(1000, 2000);
        x.clause('y', 3, false);
        x.peril('g', 1, 500, 100);
        x.expense('p', 0, 101, 3);
        x.expense('w', 0, 999, 3);
        x.award(60, 50);
        Check.eq("average", x.average(), 601);
        Check.eq("shares", shares(x, false), "200 401");
        Check.eq("salvage", shares(x, true), "20 40");
        Check.eq("balances", balanceRow(x), (200 + 20 - 101) + " " + (401 + 40 - 500));
        x.clause('y', 1, false);
        Check.eq("rules 1", x.average(), 500 + 103 + 999 + 60);
        Check.eq("rules 1", balanceRow(x), (554 - 1162) + " " + (1108 - 500));
    }

    private static void deposits() {
        Averagehall x = withInterests(1000, 1000);
        x.expense('f', 0, 500, 0);
        Check.eq("due", x.due(0) + " " + x.due(1), "0 250");
        x.deposit(1, 200);
        Check.eq("less a deposit", x.due(0) + " " + x.due(1), "0 50");
        x.deposit(1, 60);
        Check.eq("less two", x.due(0) + " " + x.due(1), "0 -10");
        x.deposit(0, 5);
        x.deposit(7, 9);
        Check.eq("all of it back", x.due(0) + " " + x.due(1), "-5 -10");
        Check.eq("balances stand", balanceRow(x), "-250 250");
        x.paper(6);
        x.deposit(1, 100);
        Check.eq("due", x.due(1), -110);
        x.asOf(5);
        Check.eq("as of 5", x.due(1), -10);
    }

    private static void oneCoin() {
        Averagehall x = withInterests(1);
        x.clause('y', 3, false);
        x.expense('f', 0, 77, 0);
        x.award(55, 0);
        Check.eq("a value of 1", shares(x, false) + " " + shares(x, true) + " " + balanceRow(x), "77 55 55");
    }

    private static void theFirstFact() {
        Averagehall x = Check.opened(0);
        x.peril('g', 0, 3, 0);
        x.interest(10);
        Check.eq("a peril as the first fact", rests(x), "7+3");
        Averagehall y = Check.opened(0);
        y.expense('f', 0, 3, 0);
        y.interest(10);
        Check.eq("an expense as the first fact", y.average(), 3);
        Averagehall z = Check.opened(0);
        z.award(4, 0);
        z.interest(10);
        Check.eq("an award as the first fact", z.average(), 4);
        Averagehall w = Check.opened(0);
        w.deposit(0, 5);
        w.interest(10);
        Check.eq("a deposit as the first fact", w.due(0), -5);
    }

    private static void backToAnEarlierDay() {
        Averagehall x = withInterests(10);
        x.peril('g', 0, 4, 1);
        x.peril('l', 0, 6, 2);
        x.expense('f', 0, 7, 0);
        x.paper(6);
        x.interest(100);
        x.expense('f', 1, 50, 0);
        x.peril('g', 1, 20, 0);
        Check.eq("with the later paper", rests(x) + " " + x.average() + " " + balanceRow(x), "0+4 80+20 81 -8 8");
        x.asOf(5);
        Check.eq("all that there is is lost", rests(x) + " " + x.average() + " " + balanceRow(x), "0+0 7 -7");
        x.asOf(6);
        Check.eq("with it", rests(x) + " " + x.average() + " " + balanceRow(x), "0+4 80+20 81 -8 8");
    }

    private static Averagehall lively() {
        Averagehall x = withInterests(1000, 500);
        x.clause('y', 3, false);
        x.peril('g', 1, 90, 1);
        x.award(30, 0);
        x.expense('p', 0, 45, 0);
        return x;
    }

    /** No call may lean on another one that was asked ahead of it. */
    private static void eachAskedFirst() {
        Check.eq("rest", lively().rest(1), 410);
        Check.eq("madeGood", lively().madeGood(1), 90);
        Check.eq("average", lively().average(), 135);
        Check.eq("share", lively().share(0, false), 90);
        Check.eq("share of salvage", lively().share(0, true), 20);
        Check.eq("balance", lively().balance(0), 90 + 20 - 45);
        Check.eq("due", lively().due(0), 65);
        Check.eq("goodShare", lively().goodShare(), 90f / 135f);
        Check.eq("meanBalance", lively().meanBalance(), (65 + 35) / 2d);
        Check.eq("isConsistent", lively().isConsistent(), true);
    }

    private static void theMost() {
        Averagehall x = withInterests(100000, 1);
        x.clause('i', 9999, false);
        x.clause('y', 1, false);
        x.moment('e', 4799);
        int count = 0;
        while (x.facts() < 200) {
            x.expense('p', 1, 100000, 0);
            count++;
        }
        long each = 100000 + 2000 + 100000L * 9999 * 199 / 36500;
        long whole = count * each;
        Check.eq("the most", x.average(), whole);
        long low = whole / 100001;
        long small = (whole % 100001) * 2 > 100001 ? low + 1 : low;
        Check.eq("share", x.share(0, false), whole - small);
        Check.eq("balance", x.balance(1), small - whole);
        Check.eq("due", x.due(0), whole - small);
        Check.eq("mean", x.meanBalance(), (double) (2 * (whole - small)) / 2);
        Check.eq("consistent", x.isConsistent(), true);
    }
}

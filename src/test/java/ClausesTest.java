/** Promises 5 to 7: clause, strike, binding. */
public final class ClausesTest {
    private static final String SUBJECTS = "adensrkbhvwiyt";
    private static final int[] USUAL = {72, 2400, 1200, 6, 0, 0, 0, 0, 4800, 12, 4, 7, 2, 50};

    public static void main(String[] args) {
        usualValues();
        ranges();
        ridersAheadOfPrint();
        struckOut();
        asOfDays();
        wrongStrikes();
        Check.end("ClausesTest");
    }

    private static void usualValues() {
        Averagehall x = new Averagehall();
        for (int i = 0; i < SUBJECTS.length(); i++) {
            Check.eq("usual " + SUBJECTS.charAt(i), x.binding(SUBJECTS.charAt(i)), USUAL[i]);
        }
        for (char c = 0; c < 300; c++) {
            char subject = c;
            if (SUBJECTS.indexOf(c) < 0) {
                Check.fails("binding " + (int) c, Check.IAE, () -> x.binding(subject));
            }
        }
        Check.fails("binding 65535", Check.IAE, () -> x.binding((char) 65535));
    }

    private static int least(char subject) {
        return subject == 'v' || subject == 'y' ? 1 : 0;
    }

    private static int most(char subject) {
        return "srkb".indexOf(subject) >= 0 ? 1 : subject == 'y' ? 3 : 9999;
    }

    private static void ranges() {
        for (int i = 0; i < SUBJECTS.length(); i++) {
            char c = SUBJECTS.charAt(i);
            Averagehall x = Check.opened(0);
            Check.eq("least " + c, x.clause(c, least(c), false), 0);
            Check.eq("binds " + c, x.binding(c), least(c));
            Check.eq("most " + c, x.clause(c, most(c), false), 1);
            Check.eq("binds " + c, x.binding(c), most(c));
            Check.failsAndKeeps("under " + c, Check.IAE, x, () -> x.clause(c, least(c) - 1, true));
            Check.failsAndKeeps("over " + c, Check.IAE, x, () -> x.clause(c, most(c) + 1, true));
            Check.fails("min " + c, Check.IAE, () -> x.clause(c, Integer.MIN_VALUE, true));
            Check.fails("max " + c, Check.IAE, () -> x.clause(c, Integer.MAX_VALUE, true));
        }
        Averagehall x = Check.opened(0);
        for (char c = 0; c < 300; c++) {
            char subject = c;
            if (SUBJECTS.indexOf(c) < 0) {
                Check.fails("clause " + (int) c, Check.IAE, () -> x.clause(subject, 1, false));
            }
        }
        Check.failsAndKeeps("no such subject", Check.IAE, x, () -> x.clause('A', 1, true));
    }

    private static void ridersAheadOfPrint() {
        Averagehall x = Check.opened(5);
        x.clause('a', 10, false);
        x.clause('a', 11, false);
        Check.eq("the last print", x.binding('a'), 11);
        x.clause('a', 20, true);
        x.clause('a', 12, false);
        Check.eq("a rider ahead of later print", x.binding('a'), 20);
        x.clause('a', 21, true);
        Check.eq("the last rider", x.binding('a'), 21);
        Check.eq("another subject", x.binding('d'), 2400);
        x.paper(2);
        x.clause('a', 22, true);
        Check.eq("by numbers of facts, not by days", x.binding('a'), 22);
        x.asOf(4);
        Check.eq("as of 4", x.binding('a'), 22);
        x.asOf(1);
        Check.eq("as of 1", x.binding('a'), 72);
    }

    private static void struckOut() {
        Averagehall x = Check.opened(5);
        int print = x.clause('h', 1, false);
        int laterPrint = x.clause('h', 2, false);
        int rider = x.clause('h', 3, true);
        int laterRider = x.clause('h', 4, true);
        x.strike(laterRider);
        Check.eq("the rider ahead of it", x.binding('h'), 3);
        x.strike(rider);
        Check.eq("the last print", x.binding('h'), 2);
        x.strike(print);
        Check.eq("struck print aside", x.binding('h'), 2);
        Check.eq("a strike has a number", x.strike(laterPrint), 7);
        Check.eq("the usual value", x.binding('h'), 4800);
        Check.eq("once more", x.strike(laterPrint), 8);
        Check.eq("the usual value", x.binding('h'), 4800);
        x.clause('h', 5, false);
        Check.eq("a new one", x.binding('h'), 5);
    }

    private static void asOfDays() {
        Averagehall x = Check.opened(10);
        int clause = x.clause('t', 9, false);
        x.paper(30);
        x.strike(clause);
        x.paper(20);
        x.strike(clause);
        x.paper(40);
        x.strike(clause);
        Check.eq("struck", x.binding('t'), 50);
        x.asOf(20);
        Check.eq("struck as of 20", x.binding('t'), 50);
        x.asOf(19);
        Check.eq("not yet struck as of 19", x.binding('t'), 9);
        x.asOf(9);
        Check.eq("not yet told as of 9", x.binding('t'), 50);
        Check.eq("what does not count can be struck", x.strike(x.clause('t', 8, true)), 5);
        x.asOf(999);
        Check.eq("struck", x.binding('t'), 50);
        x.paper(50);
        int late = x.clause('t', 7, true);
        x.paper(45);
        x.strike(late);
        Check.eq("struck by an earlier paper", x.binding('t'), 50);
    }

    private static void wrongStrikes() {
        Averagehall x = Check.opened(0);
        x.clause('a', 1, true);
        x.strike(0);
        x.notice(0, true);
        x.moment('f', 1);
        x.holiday(3);
        for (int fact = 1; fact <= 6; fact++) {
            int number = fact;
            Check.failsAndKeeps("strike " + fact, Check.IOOBE, x, () -> x.strike(number));
        }
        Check.failsAndKeeps("strike -1", Check.IOOBE, x, () -> x.strike(-1));
        Check.fails("strike 200", Check.IOOBE, () -> x.strike(200));
        Check.fails("strike min", Check.IOOBE, () -> x.strike(Integer.MIN_VALUE));
        Check.fails("strike max", Check.IOOBE, () -> x.strike(Integer.MAX_VALUE));
    }
}

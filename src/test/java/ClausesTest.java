/** Promises 5 to 7: clause, strike, binding. */
public final class ClausesTest {
    private static final int[] USUAL = {72, 2400, 1200, 6, 0, 0, 0, 0, 4800, 12, 4, 7, 2, 50};

    public static void main(String[] args) {
        usualValues();
        leastAndMost();
        ridersAheadOfPrint();
        eachSubjectByItself();
        struckOut();
        allStruckOut();
        asOfDays();
        whatCannotBeStruckOut();
        Check.end("ClausesTest");
    }

    /** "Or, without any, the value here". */
    private static void usualValues() {
        for (int i = 0; i < Check.SUBJECTS.length(); i++) {
            char subject = Check.SUBJECTS.charAt(i);
            Check.eq("usual " + subject, new Averagehall().binding(subject), USUAL[i]);
            Check.eq("usual behind a paper, " + subject, Check.opened(0).binding(subject), USUAL[i]);
        }
    }

    private static int least(char subject) {
        return subject == 'v' || subject == 'y' ? 1 : 0;
    }

    private static int most(char subject) {
        return "srkb".indexOf(subject) >= 0 ? 1 : subject == 'y' ? 3 : 9999;
    }

    private static void leastAndMost() {
        for (char subject : Check.SUBJECTS.toCharArray()) {
            for (boolean isRider : new boolean[] {false, true}) {
                Averagehall x = Check.opened(0);
                Check.eq("least " + subject, x.clause(subject, least(subject), isRider), 0);
                Check.eq("binds " + subject, x.binding(subject), least(subject));
                Check.eq("most " + subject, x.clause(subject, most(subject), isRider), 1);
                Check.eq("binds " + subject, x.binding(subject), most(subject));
                Check.fails("under " + subject, Check.IAE, () -> x.clause(subject, least(subject) - 1, isRider));
                Check.fails("over " + subject, Check.IAE, () -> x.clause(subject, most(subject) + 1, isRider));
                Check.eq("binds " + subject, x.binding(subject), most(subject));
            }
        }
        Averagehall x = Check.opened(0);
        Check.eq("the rules between", x.clause('y', 2, true), 0);
    }

    private static void ridersAheadOfPrint() {
        Averagehall x = Check.opened(5);
        x.clause('a', 10, false);
        x.clause('a', 11, false);
        Check.eq("the last print", x.binding('a'), 11);
        x.clause('a', 20, true);
        x.clause('a', 12, false);
        Check.eq("a rider ahead of later print", x.binding('a'), 20);
        x.clause('a', 21, true);
        Check.eq("the last rider", x.binding('a'), 21);
        Check.eq("another subject", x.binding('d'), 2400);
        x.paper(2);
        x.clause('a', 22, true);
        Check.eq("by numbers of facts, not by days", x.binding('a'), 22);
        x.asOf(4);
        Check.eq("as of 4", x.binding('a'), 22);
        x.asOf(1);
        Check.eq("as of 1", x.binding('a'), 72);
        Averagehall y = Check.opened(5);
        y.clause('a', 10, false);
        y.paper(2);
        y.clause('a', 11, false);
        Check.eq("print by numbers of facts, not by days", y.binding('a'), 11);
        Averagehall z = Check.opened(5);
        z.clause('a', 10, true);
        Check.eq("a rider without print", z.binding('a'), 10);
    }

    private static void eachSubjectByItself() {
        Averagehall x = Check.opened(0);
        for (char subject : Check.SUBJECTS.toCharArray()) {
            x.clause(subject, 1, subject < 'k');
        }
        for (char subject : Check.SUBJECTS.toCharArray()) {
            Check.eq("binds " + subject, x.binding(subject), 1);
        }
    }

    private static void struckOut() {
        Averagehall x = Check.opened(5);
        int print = x.clause('h', 1, false);
        int laterPrint = x.clause('h', 2, false);
        int rider = x.clause('h', 3, true);
        int laterRider = x.clause('h', 4, true);
        x.strike(laterRider);
        Check.eq("the rider ahead of it", x.binding('h'), 3);
        x.strike(rider);
        Check.eq("the last print", x.binding('h'), 2);
        x.strike(print);
        Check.eq("struck print aside", x.binding('h'), 2);
        Check.eq("a strike has a number", x.strike(laterPrint), 7);
        Check.eq("the usual value", x.binding('h'), 4800);
        Check.eq("once more", x.strike(laterPrint), 8);
        Check.eq("the usual value", x.binding('h'), 4800);
        x.clause('h', 5, false);
        Check.eq("a new one", x.binding('h'), 5);
    }

    private static void allStruckOut() {
        for (int i = 0; i < Check.SUBJECTS.length(); i++) {
            char subject = Check.SUBJECTS.charAt(i);
            Averagehall x = Check.opened(0);
            x.clause(subject, 1, true);
            x.clause(subject, 1, false);
            x.strike(1);
            Check.eq("the rider of " + subject, x.binding(subject), 1);
            x.strike(0);
            Check.eq("without any, " + subject, x.binding(subject), USUAL[i]);
        }
    }

    private static void asOfDays() {
        Averagehall x = Check.opened(10);
        int clause = x.clause('t', 9, false);
        x.paper(30);
        x.strike(clause);
        x.paper(20);
        x.strike(clause);
        x.paper(40);
        x.strike(clause);
        Check.eq("struck", x.binding('t'), 50);
        x.asOf(20);
        Check.eq("struck as of 20", x.binding('t'), 50);
        x.asOf(19);
        Check.eq("not yet struck as of 19", x.binding('t'), 9);
        x.asOf(9);
        Check.eq("not yet told as of 9", x.binding('t'), 50);
        Check.eq("what does not count can be struck", x.strike(x.clause('t', 8, true)), 5);
        x.asOf(999);
        Check.eq("struck", x.binding('t'), 50);
        x.paper(50);
        int late = x.clause('t', 7, true);
        x.paper(45);
        x.strike(late);
        Check.eq("struck by an earlier paper", x.binding('t'), 50);
        x.paper(900);
        x.strike(x.clause('t', 6, true));
        Check.eq("by the latest paper", x.binding('t'), 50);
        Averagehall y = Check.opened(0);
        y.clause('t', 9, false);
        y.strike(0);
        y.asOf(0);
        Check.eq("by the earliest paper", y.binding('t'), 50);
        Averagehall z = Check.opened(0);
        z.clause('t', 9, false);
        z.paper(900);
        z.strike(0);
        Check.eq("by the latest paper", z.binding('t'), 50);
        z.asOf(899);
        Check.eq("a day earlier", z.binding('t'), 9);
    }

    private static void whatCannotBeStruckOut() {
        Averagehall x = Check.opened(0);
        Check.fails("nothing was told", Check.IOOBE, () -> x.strike(0));
        x.clause('a', 1, true);
        x.strike(0);
        x.notice(0, true);
        x.stop('r', 0, 1);
        x.holiday(3);
        x.moment('f', 1);
        x.run(0, 0, 0);
        x.interest(1);
        x.peril('l', 0, 1, 0);
        x.expense('p', 0, 1, 0);
        x.substitute(0, 1, 0, 0);
        x.award(1, 0);
        x.deposit(0, 1);
        x.tons(1);
        x.claim(0, 1, 0);
        Check.eq("facts", x.facts(), 15);
        for (int fact = 1; fact <= 16; fact++) {
            int number = fact;
            Check.fails("strike " + fact, Check.IOOBE, () -> x.strike(number));
        }
        Check.eq("nothing was told", x.facts(), 15);
        Check.eq("but the clause, once more", x.strike(0), 15);
    }
}

/** Promises 35 to 37: goodShare, meanBalance, isConsistent. */
public final class FiguresTest {
    public static void main(String[] args) {
        averageOfZero();
        goodShare();
        goodShareAsFloat();
        noInterests();
        meanBalance();
        theGreatestMean();
        isConsistent();
        isConsistentWithClaims();
        Check.end("FiguresTest");
    }

    /** "If the average is 0". */
    private static void averageOfZero() {
        Check.fails("nothing told", Check.AE, () -> new Averagehall().goodShare());
        Averagehall x = Check.opened(5);
        Check.fails("no facts", Check.AE, x::goodShare);
        x.interest(70000);
        x.interest(70000);
        Check.fails("interests alone", Check.AE, x::goodShare);
        x.peril('l', 0, 50, 0);
        Check.fails("a loss", Check.AE, x::goodShare);
        x.expense('w', 0, 50, 0);
        x.substitute(0, 50, 0, 0);
        Check.fails("what is not let in", Check.AE, x::goodShare);
        x.clause('y', 3, false);
        x.award(50, 0);
        Check.fails("an award that is shared by itself", Check.AE, x::goodShare);
        x.expense('f', 0, 1, 0);
        Check.eq("an average of 1", x.goodShare(), 0f);
        Averagehall y = Check.opened(5);
        y.interest(7);
        y.peril('g', 0, 3, 0);
        Check.eq("all is made good", y.goodShare(), 1f);
        y.peril('l', 0, 100, 1);
        Check.fails("all is lost", Check.AE, y::goodShare);
    }

    private static void goodShare() {
        Averagehall x = Check.opened(5);
        x.interest(70000);
        x.interest(70000);
        x.expense('f', 0, 2, 0);
        Check.eq("nothing is made good", x.goodShare(), 0f);
        x.peril('g', 1, 1, 0);
        Check.eq("a third, as a float", x.goodShare(), 1f / 3f);
        x.peril('g', 0, 3, 0);
        Check.eq("of all interests", x.goodShare(), 4f / 6f);
        x.expense('p', 0, 100, 0);
        Check.eq("with what is added", x.goodShare(), 4f / 108f);
        x.asOf(4);
        Check.fails("as of 4", Check.AE, x::goodShare);
    }

    /** "Both converted to float": 16777217 has no float of its own. */
    private static void goodShareAsFloat() {
        Averagehall x = Check.opened(5);
        x.interest(70000);
        x.peril('g', 0, 1, 0);
        for (int i = 0; i < 167; i++) {
            x.expense('f', 0, 100000, 0);
        }
        x.expense('f', 0, 77216, 0);
        Check.eq("the average", x.average(), 16777217);
        Check.eq("as float", x.goodShare(), 1f / 16777216f);
        Check.eq("not as double", x.goodShare() == (float) (1d / 16777217d), false);
    }

    private static void noInterests() {
        Check.fails("nothing told", Check.AE, () -> new Averagehall().meanBalance());
        Averagehall x = Check.opened(5);
        Check.fails("no facts", Check.AE, x::meanBalance);
        x.expense('f', 0, 5, 0);
        x.award(5, 0);
        Check.fails("no interests", Check.AE, x::meanBalance);
        x.interest(100);
        Check.eq("one interest", x.meanBalance(), 0d);
        x.asOf(4);
        Check.fails("as of 4", Check.AE, x::meanBalance);
    }

    private static void meanBalance() {
        Averagehall x = Check.opened(5);
        x.interest(100);
        x.interest(100);
        x.interest(100);
        Check.eq("no balances", x.meanBalance(), 0d);
        x.expense('f', 0, 100, 0);
        Check.eq("without their signs", x.meanBalance(), 132d / 3d);
        x.expense('f', 0, 1, 0);
        Check.eq("a fraction", x.meanBalance(), 134d / 3d);
        x.deposit(1, 50);
        Check.eq("deposits are no matter", x.meanBalance(), 134d / 3d);
        x.clause('y', 3, false);
        x.award(31, 0);
        Check.eq("with salvage", x.meanBalance(), (56 + 44 + 43) / 3d);
        Averagehall y = Check.opened(5);
        y.interest(100);
        y.interest(100);
        y.expense('f', 0, 1, 0);
        Check.eq("a coin of one", y.meanBalance(), 0d);
        y.expense('f', 1, 2, 0);
        Check.eq("a coin of two", y.meanBalance(), 1d);
    }

    /** A sum that does not fit into 32 bits. */
    private static void theGreatestMean() {
        Averagehall x = Check.opened(5);
        x.interest(1);
        x.interest(100000);
        x.clause('i', 9999, false);
        x.moment('e', 4799);
        long whole = 0;
        while (x.facts() < 200) {
            x.expense('f', 0, 100000, 0);
            whole += 100000 + 100000L * 9999 * 199 / 36500;
        }
        long small = Math.round((double) whole / 100001d);
        Check.eq("the average", x.average(), whole);
        Check.eq("the sum is too great for an int", 2 * (whole - small) > Integer.MAX_VALUE, true);
        Check.eq("mean", x.meanBalance(), (double) (2 * (whole - small)) / 2d);
    }

    private static void isConsistent() {
        Averagehall x = new Averagehall();
        Check.eq("new", x.isConsistent(), true);
        x.paper(5);
        x.expense('f', 0, 7, 0);
        x.award(100, 20);
        Check.eq("no interests", x.isConsistent(), true);
        x.interest(30);
        x.interest(31);
        x.interest(32);
        x.peril('g', 1, 7, 30);
        Check.eq("rules 2", x.isConsistent(), true);
        x.clause('y', 1, true);
        Check.eq("rules 1", x.isConsistent(), true);
        x.clause('y', 3, true);
        Check.eq("rules 3", x.isConsistent(), true);
        x.peril('l', 0, 100, 40);
        x.peril('l', 1, 100, 40);
        x.peril('l', 2, 100, 40);
        Check.eq("nothing contributes, expenses stand", x.isConsistent(), true);
        x.peril('l', 0, 100, 10);
        x.peril('l', 1, 100, 10);
        x.peril('l', 2, 100, 10);
        Check.eq("nothing is there for salvage", x.isConsistent(), true);
        x.asOf(2);
        Check.eq("as of 2", x.isConsistent(), true);
    }

    private static void isConsistentWithClaims() {
        Averagehall x = Check.opened(5);
        x.claim(1, 4000, 0);
        x.claim(1, 4001, 400);
        x.claim(2, 5, 0);
        Check.eq("a fund that does not suffice", x.isConsistent(), true);
        x.tons(9999);
        Check.eq("a fund that suffices", x.isConsistent(), true);
        x.moment('e', 0);
        Check.eq("a claim is barred", x.isConsistent(), true);
        x.clause('t', 0, true);
        Check.eq("no fund", x.isConsistent(), true);
        x.asOf(4);
        Check.eq("no claims", x.isConsistent(), true);
    }
}

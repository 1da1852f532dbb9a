/** Promises 35 to 37: goodShare, meanBalance, isConsistent. */
public final class FiguresTest {
    public static void main(String[] args) {
        goodShare();
        meanBalance();
        isConsistent();
        Check.end("FiguresTest");
    }

    private static void goodShare() {
        Averagehall x = Check.opened(5);
        Check.fails("no average", Check.AE, x::goodShare);
        x.interest(70000);
        x.interest(70000);
        Check.fails("an average of 0", Check.AE, x::goodShare);
        x.expense('f', 0, 2, 0);
        Check.eq("nothing is made good", x.goodShare(), 0f);
        x.peril('g', 1, 1, 0);
        Check.eq("a third, as a float", x.goodShare(), 1f / 3f);
        x.peril('g', 0, 3, 0);
        Check.eq("of all interests", x.goodShare(), 4f / 6f);
        x.asOf(4);
        Check.fails("as of 4", Check.AE, x::goodShare);
        Averagehall y = Check.opened(5);
        y.interest(7);
        y.peril('g', 0, 3, 0);
        Check.eq("all is made good", y.goodShare(), 1f);
        y.peril('l', 0, 100, 1);
        Check.fails("all is lost", Check.AE, y::goodShare);
    }

    private static void meanBalance() {
        Averagehall x = Check.opened(5);
        Check.fails("no interests", Check.AE, x::meanBalance);
        x.interest(100);
        Check.eq("no balances", x.meanBalance(), 0d);
        x.interest(100);
        x.interest(100);
        Check.eq("no balances", x.meanBalance(), 0d);
        x.expense('f', 0, 100, 0);
        Check.eq("without their signs", x.meanBalance(), 132d / 3d);
        x.expense('f', 0, 1, 0);
        Check.eq("a fraction", x.meanBalance(), 134d / 3d);
        x.deposit(1, 50);
        Check.eq("deposits are no matter", x.meanBalance(), 134d / 3d);
        x.clause('y', 3, false);
        x.award(31, 0);
        Check.eq("with salvage", x.meanBalance(), (56 + 44 + 43) / 3d);
        x.asOf(4);
        Check.fails("as of 4", Check.AE, x::meanBalance);
    }

    private static void isConsistent() {
        Averagehall x = new Averagehall();
        Check.eq("new", x.isConsistent(), true);
        x.paper(5);
        x.expense('f', 0, 7, 0);
        x.award(100, 20);
        Check.eq("no interests", x.isConsistent(), true);
        x.interest(30);
        x.interest(31);
        x.interest(32);
        x.peril('g', 1, 7, 30);
        Check.eq("rules 2", x.isConsistent(), true);
        x.clause('y', 3, true);
        Check.eq("rules 3", x.isConsistent(), true);
        x.peril('l', 0, 100, 40);
        x.peril('l', 1, 100, 40);
        x.peril('l', 2, 100, 40);
        Check.eq("nothing contributes, expenses stand", x.isConsistent(), true);
        x.claim(1, 4000, 0);
        x.claim(1, 4001, 0);
        x.claim(2, 5, 0);
        Check.eq("a fund that does not suffice", x.isConsistent(), true);
        x.tons(9999);
        Check.eq("a fund that suffices", x.isConsistent(), true);
        x.asOf(2);
        Check.eq("as of 2", x.isConsistent(), true);
    }
}

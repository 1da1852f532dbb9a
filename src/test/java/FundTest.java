/** Promises 31 to 34: tons, claim, claims, paid. */
public final class FundTest {
    public static void main(String[] args) {
        ranges();
        theFund();
        ranks();
        coins();
        barred();
        asOfDays();
        noSuchClaim();
        theFirstFact();
        Check.end("FundTest");
    }

    private static String payments(Averagehall x) {
        StringBuilder text = new StringBuilder();
        for (int i = 0; i < x.claims(); i++) {
            text.append(x.paid(i)).append(' ');
        }
        return text.toString().trim();
    }

    private static Averagehall fundOf(int coins) {
        Averagehall x = Check.opened(5);
        x.clause('t', coins, false);
        x.tons(1);
        return x;
    }

    private static void ranges() {
        Averagehall x = Check.opened(0);
        Check.eq("tons", x.tons(1), 0);
        Check.eq("tons", x.tons(9999), 1);
        for (int tons : new int[] {0, -1, 10000, Integer.MIN_VALUE, Integer.MAX_VALUE}) {
            Check.failsAndKeeps("tons " + tons, Check.IAE, x, () -> x.tons(tons));
        }
        Check.eq("claim", x.claim(0, 1, 0), 2);
        Check.eq("claim", x.claim(3, 100000, 900), 3);
        int[][] wrong = {{-1, 1, 0}, {4, 1, 0}, {0, 0, 0}, {0, -1, 0}, {0, 100001, 0}, {0, 1, -1}, {0, 1, 901},
            {Integer.MIN_VALUE, 1, 0}, {0, Integer.MAX_VALUE, 0}, {0, 1, Integer.MIN_VALUE}};
        for (int[] row : wrong) {
            Check.failsAndKeeps("claim " + java.util.Arrays.toString(row), Check.IAE, x,
                    () -> x.claim(row[0], row[1], row[2]));
        }
    }

    private static void theFund() {
        Averagehall x = Check.opened(5);
        x.claim(0, 100000, 0);
        Check.eq("100 tons, 50 coins each", x.paid(0), 5000);
        x.tons(7);
        Check.eq("7 tons", x.paid(0), 350);
        x.clause('t', 0, false);
        Check.eq("no fund", x.paid(0), 0);
        x.clause('t', 3, true);
        Check.eq("3 coins", x.paid(0), 21);
        x.tons(8);
        Check.eq("8 tons", x.paid(0), 24);
        x.paper(1);
        x.tons(9);
        Check.eq("by numbers of facts, not by days", x.paid(0), 27);
        x.tons(9999);
        x.clause('t', 9999, true);
        Check.eq("the greatest fund", x.paid(0), 100000);
    }

    private static void ranks() {
        Averagehall x = fundOf(1000);
        x.claim(2, 400, 0);
        x.claim(1, 300, 0);
        x.claim(3, 10, 0);
        x.claim(0, 200, 0);
        Check.eq("all in full", payments(x), "400 300 10 200");
        x.claim(0, 600, 0);
        Check.eq("the lesser ranks first", payments(x), "0 200 0 200 600");
        x.claim(1, 100, 0);
        Check.eq("a rank shared", payments(x), "0 150 0 200 600 50");
        x.claim(0, 200, 0);
        Check.eq("in full to the last coin", payments(x), "0 0 0 200 600 0 200");
        x.claim(0, 1000, 0);
        Check.eq("the first rank shared", payments(x), "0 0 0 100 300 0 100 500");
        Check.eq("consistent", x.isConsistent(), true);
    }

    private static void coins() {
        Averagehall x = fundOf(100);
        x.claim(0, 100, 0);
        x.claim(1, 1, 0);
        x.claim(0, 100, 0);
        x.claim(0, 100, 0);
        Check.eq("of the same to the lower numbers", payments(x), "34 0 33 33");
        x.claim(0, 50, 0);
        Check.eq("to the greatest remainders", payments(x), "29 0 29 28 14");
        Averagehall y = fundOf(1);
        y.claim(3, 10, 0);
        y.claim(3, 11, 0);
        Check.eq("one coin", payments(y), "0 1");
    }

    private static void barred() {
        Averagehall x = fundOf(100);
        x.claim(0, 60, 365);
        x.claim(0, 60, 366);
        x.claim(0, 60, 900);
        Check.eq("the end was not told", payments(x), "34 33 33");
        x.moment('e', 23);
        Check.eq("365 days behind the day 0", payments(x), "60 0 0");
        x.moment('e', 24);
        Check.eq("365 days behind the day 1", payments(x), "50 50 0");
        x.moment('e', 4799);
        Check.eq("behind the day 199", payments(x), "50 50 0");
        x.claim(1, 60, 564);
        x.claim(0, 20, 0);
        Check.eq("ahead of the end", payments(x), "43 43 0 0 14");
        x.claim(0, 1, 565);
        Check.eq("barred", payments(x), "43 43 0 0 14 0");
        Check.eq("claims, the barred ones too", x.claims(), 6);
        Check.eq("consistent", x.isConsistent(), true);
    }

    private static void asOfDays() {
        Averagehall x = fundOf(100);
        x.claim(0, 60, 0);
        x.paper(3);
        x.claim(1, 70, 0);
        Check.eq("both", payments(x), "60 40");
        x.asOf(4);
        Check.eq("numbered by those that count", payments(x), "70");
        Check.eq("claims", x.claims(), 1);
        x.asOf(2);
        Check.eq("none", x.claims(), 0);
        Check.fails("none", Check.IOOBE, () -> x.paid(0));
    }

    private static void theFirstFact() {
        Averagehall x = Check.opened(0);
        x.tons(2);
        x.claim(0, 1000, 0);
        Check.eq("tons as the first fact", x.paid(0), 100);
        Averagehall y = Check.opened(0);
        y.claim(3, 1, 0);
        Check.eq("a claim as the first fact, of 1", y.paid(0), 1);
    }

    private static void noSuchClaim() {
        Averagehall x = fundOf(100);
        x.claim(0, 60, 0);
        x.claim(1, 60, 0);
        for (int claim : new int[] {-1, 2, 3, 200, Integer.MIN_VALUE, Integer.MAX_VALUE}) {
            Check.failsAndKeeps("paid " + claim, Check.IOOBE, x, () -> x.paid(claim));
        }
        Check.eq("the last one", x.paid(1), 40);
        Averagehall y = Check.opened(0);
        for (int i = 0; i < 200; i++) {
            y.claim(2, 100, 0);
        }
        Check.eq("200 claims", y.claims(), 200);
        Check.eq("the 200th", y.paid(199), 25);
        Check.fails("the 201st", Check.IOOBE, () -> y.paid(200));
    }
}

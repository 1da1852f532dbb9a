/** Promises 31 to 34: tons, claim, claims, paid. */
public final class FundTest {
    public static void main(String[] args) {
        theFund();
        leastAndMost();
        ranks();
        exactly();
        coins();
        greatNumbers();
        barred();
        theEndToldAgain();
        asOfDays();
        claims();
        noSuchClaim();
        theFirstFact();
        Check.end("FundTest");
    }

    private static String payments(Averagehall x) {
        StringBuilder text = new StringBuilder();
        for (int i = 0; i < x.claims(); i++) {
            text.append(x.paid(i)).append(' ');
        }
        return text.toString().trim();
    }

    private static Averagehall fundOf(int coins) {
        Averagehall x = Check.opened(5);
        x.clause('t', coins, false);
        x.tons(1);
        return x;
    }

    /** "The coins for a ton times the tons", which are 50 and 100 without being told. */
    private static void theFund() {
        Averagehall x = Check.opened(5);
        x.claim(0, 100000, 0);
        Check.eq("100 tons, 50 coins each", x.paid(0), 5000);
        x.tons(7);
        Check.eq("7 tons", x.paid(0), 350);
        x.clause('t', 0, false);
        Check.eq("no fund", x.paid(0), 0);
        x.clause('t', 3, true);
        Check.eq("3 coins", x.paid(0), 21);
        x.tons(8);
        Check.eq("8 tons", x.paid(0), 24);
        x.paper(1);
        x.tons(9);
        Check.eq("by numbers of facts, not by days", x.paid(0), 27);
        x.asOf(4);
        Check.eq("no claim as of 4", x.claims(), 0);
        x.claim(0, 100000, 0);
        Check.eq("9 tons as of 4", x.paid(0), 450);
        x.asOf(0);
        x.paper(0);
        x.claim(0, 100000, 0);
        Check.eq("as of 0, 100 tons without being told", x.paid(0), 5000);
    }

    private static void leastAndMost() {
        Averagehall x = fundOf(1);
        x.claim(0, 1, 0);
        Check.eq("the least fund and the least claim", payments(x), "1");
        x.claim(0, 1, 0);
        Check.eq("one coin for two", payments(x), "1 0");
        Averagehall y = fundOf(9999);
        y.tons(9999);
        y.claim(0, 100000, 900);
        y.claim(3, 100000, 900);
        Check.eq("the greatest fund", payments(y), "100000 100000");
        Averagehall z = fundOf(0);
        z.claim(0, 1, 0);
        z.claim(3, 1, 0);
        Check.eq("no fund", payments(z), "0 0");
        Check.eq("consistent", z.isConsistent(), true);
    }

    private static void ranks() {
        Averagehall x = fundOf(1000);
        x.claim(2, 400, 0);
        x.claim(1, 300, 0);
        x.claim(3, 10, 0);
        x.claim(0, 200, 0);
        Check.eq("all in full", payments(x), "400 300 10 200");
        x.claim(0, 600, 0);
        Check.eq("the lesser ranks first", payments(x), "0 200 0 200 600");
        x.claim(1, 100, 0);
        Check.eq("a rank shared", payments(x), "0 150 0 200 600 50");
        x.claim(0, 200, 0);
        Check.eq("in full to the last coin", payments(x), "0 0 0 200 600 0 200");
        x.claim(0, 1000, 0);
        Check.eq("the first rank shared", payments(x), "0 0 0 100 300 0 100 500");
        Check.eq("consistent", x.isConsistent(), true);
    }

    /** "As far as the fund goes, in full or shared": each rank as the one in which the fund ends. */
    private static void exactly() {
        for (int rank = 0; rank <= 3; rank++) {
            for (int coins = 98; coins <= 102; coins++) {
                Averagehall x = fundOf(coins + 10 * rank);
                for (int lesser = 0; lesser < rank; lesser++) {
                    x.claim(lesser, 10, 0);
                }
                x.claim(rank, 60, 0);
                x.claim(rank, 40, 0);
                Check.eq("rank " + rank + " of 100, the fund " + coins, x.paid(rank) + " " + x.paid(rank + 1),
                        coins == 98 ? "59 39" : coins == 99 ? "59 40" : "60 40");
                if (rank < 3) {
                    x.claim(3, 9, 0);
                    Check.eq("what is left", x.paid(rank + 2), Math.max(0, coins - 100));
                }
            }
        }
    }

    private static void coins() {
        Averagehall x = fundOf(100);
        x.claim(0, 100, 0);
        x.claim(1, 1, 0);
        x.claim(0, 100, 0);
        x.claim(0, 100, 0);
        Check.eq("of the same to the lower numbers", payments(x), "34 0 33 33");
        x.claim(0, 50, 0);
        Check.eq("to the greatest remainders", payments(x), "29 0 29 28 14");
        Averagehall y = fundOf(1);
        y.claim(3, 10, 0);
        y.claim(3, 11, 0);
        Check.eq("one coin", payments(y), "0 1");
    }

    /** Products that do not fit into 32 bits. */
    private static void greatNumbers() {
        Averagehall x = fundOf(9999);
        x.tons(1000);
        for (int i = 0; i < 150; i++) {
            x.claim(2, 100000, 0);
        }
        Check.eq("9999000 coins for 150 claims", x.paid(0) + " " + x.paid(149), "66660 66660");
        x.clause('t', 9998, true);
        Check.eq("9998000 coins for 150 claims", x.paid(0) + " " + x.paid(49) + " " + x.paid(50) + " " + x.paid(149),
                "66654 66654 66653 66653");
        Check.eq("consistent", x.isConsistent(), true);
    }

    /** "One of a day more than 365 days behind the end, if that was told". */
    private static void barred() {
        Averagehall x = fundOf(100);
        x.claim(0, 60, 365);
        x.claim(0, 60, 366);
        x.claim(0, 60, 900);
        Check.eq("the end was not told", payments(x), "34 33 33");
        x.moment('f', 0);
        x.moment('d', 0);
        x.moment('g', 0);
        Check.eq("other moments", payments(x), "34 33 33");
        x.moment('e', 0);
        Check.eq("365 days behind the day 0", payments(x), "60 0 0");
        x.moment('e', 23);
        Check.eq("365 days behind the day 0", payments(x), "60 0 0");
        x.moment('e', 24);
        Check.eq("365 days behind the day 1", payments(x), "50 50 0");
        x.moment('e', 4799);
        Check.eq("behind the day 199", payments(x), "50 50 0");
        x.claim(1, 60, 564);
        x.claim(0, 20, 0);
        Check.eq("ahead of the end", payments(x), "43 43 0 0 14");
        x.claim(0, 1, 565);
        Check.eq("barred", payments(x), "43 43 0 0 14 0");
        Check.eq("claims, the barred ones too", x.claims(), 6);
        Check.eq("consistent", x.isConsistent(), true);
        Averagehall y = fundOf(9999);
        y.moment('e', 4799);
        y.claim(0, 10, 563);
        y.claim(0, 11, 564);
        y.claim(0, 12, 565);
        y.claim(0, 13, 566);
        Check.eq("round 365 days behind the day 199", payments(y), "10 11 0 0");
        Averagehall z = fundOf(10);
        z.claim(0, 10, 900);
        z.claim(3, 10, 900);
        z.moment('e', 0);
        Check.eq("all barred", payments(z), "0 0");
        Check.eq("consistent", z.isConsistent(), true);
    }

    private static void theEndToldAgain() {
        Averagehall x = fundOf(100);
        x.claim(0, 60, 400);
        x.moment('e', 40 * 24);
        Check.eq("in time", payments(x), "60");
        x.paper(4);
        x.moment('e', 0);
        Check.eq("by an earlier paper", payments(x), "60");
        x.paper(5);
        x.moment('e', 0);
        Check.eq("by a paper of the same day", payments(x), "0");
    }

    private static void asOfDays() {
        Averagehall x = fundOf(100);
        x.claim(0, 60, 0);
        x.paper(3);
        x.claim(1, 70, 0);
        Check.eq("both", payments(x), "60 40");
        x.asOf(4);
        Check.eq("numbered by those that count", payments(x), "70");
        Check.eq("claims", x.claims(), 1);
        x.asOf(2);
        Check.eq("none", x.claims(), 0);
        Check.fails("none", Check.IOOBE, () -> x.paid(0));
        Averagehall y = fundOf(100);
        y.claim(0, 60, 0);
        y.paper(6);
        y.claim(0, 90, 0);
        Check.eq("both", payments(y), "40 60");
        y.asOf(5);
        Check.eq("one that does not count yet takes nothing", payments(y), "60");
        y.asOf(6);
        Check.eq("both", payments(y), "40 60");
    }

    private static void claims() {
        Check.eq("nothing told", new Averagehall().claims(), 0);
        Averagehall x = Check.opened(0);
        Check.eq("no facts", x.claims(), 0);
        x.interest(5);
        x.deposit(0, 4);
        Check.eq("other facts", x.claims(), 0);
        for (int count = 1; count < 198; count++) {
            x.claim(count % 4, 100000, 0);
            Check.eq("claims", x.claims(), count);
        }
    }

    private static void theFirstFact() {
        Averagehall x = Check.opened(0);
        x.tons(2);
        x.claim(0, 1000, 0);
        Check.eq("tons as the first fact", x.paid(0), 100);
        Averagehall y = Check.opened(0);
        y.claim(3, 1, 0);
        Check.eq("a claim as the first fact, of 1", y.paid(0), 1);
    }

    private static void noSuchClaim() {
        Check.fails("nothing told", Check.IOOBE, () -> new Averagehall().paid(0));
        Averagehall x = fundOf(100);
        x.claim(0, 60, 0);
        x.claim(1, 60, 0);
        for (int claim : new int[] {-1, 2, 3, 200, Integer.MIN_VALUE, Integer.MAX_VALUE}) {
            Check.fails("paid " + claim, Check.IOOBE, () -> x.paid(claim));
        }
        Check.eq("the last one", x.paid(1), 40);
        Averagehall y = Check.opened(0);
        for (int i = 0; i < 200; i++) {
            y.claim(2, 100, 0);
        }
        Check.eq("200 claims", y.claims(), 200);
        Check.eq("the 200th", y.paid(199), 25);
        Check.fails("the 201st", Check.IOOBE, () -> y.paid(200));
    }
}

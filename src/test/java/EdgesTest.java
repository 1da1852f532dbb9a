import java.util.Arrays;

/**
 * The edges of every call that tells: the least and the greatest number that is let in and the first one beyond on
 * either side, every sign, which exception goes first, all places taken, and that a call that throws changes nothing.
 * No object is asked more than the 512 calls for which the document promises answers.
 */
public final class EdgesTest {
    private static final int LOW = Integer.MIN_VALUE;
    private static final int HIGH = Integer.MAX_VALUE;
    private static final int MOST = 100000;

    interface Telling {
        int tell(Averagehall x, int[] a);
    }

    /** A call with arguments that are right, and for each the least and the greatest one. */
    record Kind(String name, Telling telling, int[] usual, int... leastMost) {
        int least(int place) {
            return leastMost[2 * place];
        }

        int most(int place) {
            return leastMost[2 * place + 1];
        }

        String told(int[] a) {
            return name + Arrays.toString(a);
        }
    }

    private static int[] of(int... numbers) {
        return numbers;
    }

    /** Promises 5, 8 to 12, 18, 20 to 23, 29, 31 and 32. */
    private static Kind[] kinds() {
        return new Kind[] {
            clause('a', 0, 9999), clause('d', 0, 9999), clause('e', 0, 9999), clause('n', 0, 9999),
            clause('s', 0, 1), clause('r', 0, 1), clause('k', 0, 1), clause('b', 0, 1), clause('h', 0, 9999),
            clause('v', 1, 9999), clause('w', 0, 9999), clause('i', 0, 9999), clause('y', 1, 3), clause('t', 0, 9999),
            new Kind("notice at the berth", (x, a) -> x.notice(a[0], true), of(17), 0, 4799),
            new Kind("notice", (x, a) -> x.notice(a[0], false), of(17), 0, 4799),
            stopTo4800('r'), stopTo4800('k'), stopTo4800('s'), stopTo4800('o'),
            stopFrom10('r'), stopFrom10('k'), stopFrom10('s'), stopFrom10('o'),
            new Kind("stop in the last hour", (x, a) -> x.stop('o', 4799, a[0]), of(4800), 4800, 4800),
            new Kind("stop in the first hour", (x, a) -> x.stop('o', a[0], 1), of(0), 0, 0),
            new Kind("holiday", (x, a) -> x.holiday(a[0]), of(3), 0, 199),
            moment('f'), moment('d'), moment('g'), moment('e'),
            new Kind("run", (x, a) -> x.run(a[0], a[1], a[2]), of(5, 4, 200), 0, 199, 0, 12, 0, 600),
            new Kind("interest", (x, a) -> x.interest(a[0]), of(50), 1, MOST),
            peril('l'), peril('g'), expense('p'), expense('f'), expense('r'), expense('w'),
            new Kind("substitute", (x, a) -> x.substitute(a[0], a[1], a[2], a[3]), of(0, 50, 40, 3),
                    0, 19, 1, MOST, 0, MOST, 0, 199),
            new Kind("award", (x, a) -> x.award(a[0], a[1]), of(50, 20), 1, MOST, 0, 4799),
            new Kind("deposit", (x, a) -> x.deposit(a[0], a[1]), of(0, 50), 0, 19, 1, MOST),
            new Kind("tons", (x, a) -> x.tons(a[0]), of(50), 1, 9999),
            new Kind("claim", (x, a) -> x.claim(a[0], a[1], a[2]), of(1, 50, 20), 0, 3, 1, MOST, 0, 900),
        };
    }

    private static Kind clause(char subject, int least, int most) {
        return new Kind("clause " + subject, (x, a) -> x.clause(subject, a[0], a[1] == 1), of(1, 1), least, most, 0, 1);
    }

    private static Kind stopTo4800(char cause) {
        return new Kind("stop " + cause + " to 4800", (x, a) -> x.stop(cause, a[0], 4800), of(20), 0, 4799);
    }

    private static Kind stopFrom10(char cause) {
        return new Kind("stop " + cause + " from 10", (x, a) -> x.stop(cause, 10, a[0]), of(20), 11, 4800);
    }

    private static Kind moment(char what) {
        return new Kind("moment " + what, (x, a) -> x.moment(what, a[0]), of(30), 0, 4799);
    }

    private static Kind peril(char kind) {
        return new Kind("peril " + kind, (x, a) -> x.peril(kind, a[0], a[1], a[2]), of(0, 50, 20), 0, 19, 1, MOST, 0, 4799);
    }

    private static Kind expense(char kind) {
        return new Kind("expense " + kind, (x, a) -> x.expense(kind, a[0], a[1], a[2]), of(0, 50, 3), 0, 19, 1, MOST, 0, 199);
    }

    // ---- pasts

    private static Averagehall paperOnly() {
        return Check.opened(5);
    }

    /** Something of each kind, by papers of the days 5 and 7, looked at as of the day 7. */
    private static Averagehall lively() {
        Averagehall x = Check.opened(5);
        x.interest(1000);
        x.interest(600);
        x.clause('y', 3, false);
        x.clause('a', 10, true);
        x.strike(x.clause('a', 11, true));
        x.notice(10, true);
        x.stop('r', 30, 33);
        x.stop('o', 40, 44);
        x.holiday(2);
        x.moment('f', 60);
        x.moment('d', 5);
        x.moment('g', 90);
        x.moment('e', 2000);
        x.run(1, 3, 200);
        x.peril('l', 0, 50, 10);
        x.peril('g', 1, 70, 11);
        x.expense('p', 1, 80, 3);
        x.paper(7);
        x.substitute(0, 90, 60, 4);
        x.award(100, 12);
        x.deposit(0, 30);
        x.tons(3);
        x.claim(0, 120, 9);
        x.claim(1, 90, 9);
        x.asOf(7);
        return x;
    }

    private static Averagehall full() {
        Averagehall x = lively();
        fill(x, 200);
        return x;
    }

    private static void fill(Averagehall x, int facts) {
        for (int number = x.facts(); number < facts; number++) {
            x.claim(2, 10, 5);
        }
    }

    private static Averagehall allPapers() {
        Averagehall x = new Averagehall();
        for (int i = 0; i < 39; i++) {
            x.paper(8);
        }
        x.paper(4);
        return x;
    }

    private static final Check.Past[] PASTS = {
        Averagehall::new, EdgesTest::paperOnly, EdgesTest::lively, EdgesTest::full, EdgesTest::allPapers
    };

    public static void main(String[] args) {
        for (Kind kind : kinds()) {
            letIn(kind);
            beyond(kind);
            severalBeyond(kind);
            noPlace(kind);
        }
        signs();
        papers();
        days();
        strikes();
        lastPlace();
        indices();
        Check.end("EdgesTest");
    }

    // ---- what all kinds have in common

    /** Each number at its least and at its greatest, by itself and all together. */
    private static void letIn(Kind kind) {
        for (int place = 0; place < kind.usual.length; place++) {
            for (int number : of(kind.least(place), kind.most(place))) {
                int[] a = kind.usual.clone();
                a[place] = number;
                takes(kind, a);
            }
        }
        int[] least = kind.usual.clone();
        int[] most = kind.usual.clone();
        for (int place = 0; place < kind.usual.length; place++) {
            least[place] = kind.least(place);
            most[place] = kind.most(place);
        }
        takes(kind, least);
        takes(kind, most);
    }

    private static void takes(Kind kind, int[] a) {
        Averagehall x = paperOnly();
        Check.eq(kind.told(a), kind.telling.tell(x, a), 0);
        Check.eq(kind.told(a) + " once more", kind.telling.tell(x, a), 1);
        Check.eq(kind.told(a) + ": facts", x.facts(), 2);
        Check.eq(kind.told(a) + ": consistent", x.isConsistent(), true);
    }

    private static int[] wrongOnes(Kind kind, int place) {
        return of(kind.least(place) - 1, kind.most(place) + 1, LOW, HIGH, -1 - kind.most(place));
    }

    private static boolean isFlag(Kind kind, int place) {
        return kind.name.startsWith("clause") && place == 1;
    }

    private static void beyond(Kind kind) {
        for (int place = 0; place < kind.usual.length; place++) {
            for (int number : isFlag(kind, place) ? of() : wrongOnes(kind, place)) {
                int[] a = kind.usual.clone();
                a[place] = number;
                throwsFirst(kind, a);
            }
        }
    }

    /** That no paper is open or that there are 200 facts is listed behind, whatever is wrong. */
    private static void throwsFirst(Kind kind, int[] a) {
        for (Check.Past past : PASTS) {
            Check.failsAndKeeps(kind.told(a), Check.IAE, past, x -> kind.telling.tell(x, a));
        }
    }

    private static void severalBeyond(Kind kind) {
        int[] low = kind.usual.clone();
        int[] high = kind.usual.clone();
        for (int place = 0; place < kind.usual.length; place++) {
            low[place] = kind.least(place) - 1;
            high[place] = kind.most(place) + 1;
        }
        throwsFirst(kind, low);
        throwsFirst(kind, high);
    }

    private static void noPlace(Kind kind) {
        Check.failsAndKeeps(kind.name + " without a paper", Check.ISE, Averagehall::new,
                x -> kind.telling.tell(x, kind.usual));
        Check.failsAndKeeps(kind.name + " behind 200 facts", Check.ISE, EdgesTest::full,
                x -> kind.telling.tell(x, kind.usual));
    }

    // ---- signs: subjects, causes, moments, kinds

    private static void signs() {
        for (Check.Past past : PASTS) {
            signs("clause", Check.SUBJECTS, past, (x, a) -> x.clause((char) a[0], 1, true));
            signs("stop", "rkso", past, (x, a) -> x.stop((char) a[0], 10, 20));
            signs("moment", "fdge", past, (x, a) -> x.moment((char) a[0], 30));
            signs("peril", "lg", past, (x, a) -> x.peril((char) a[0], 0, 50, 20));
            signs("expense", "pfrw", past, (x, a) -> x.expense((char) a[0], 0, 50, 3));
            signs("binding", Check.SUBJECTS, past, (x, a) -> x.binding((char) a[0]));
        }
    }

    /** No call that throws changes anything, so that one object is asked for each 250 signs. */
    private static void signs(String name, String right, Check.Past past, Telling telling) {
        for (int from = 0; from < 500; from += 250) {
            Averagehall x = past.made();
            for (int sign = from; sign < from + 250; sign++) {
                int[] a = {sign};
                if (right.indexOf(sign) < 0) {
                    Check.fails(name + " of the sign " + sign, Check.IAE, () -> telling.tell(x, a));
                }
            }
        }
        for (int letter = 0; letter < right.length(); letter++) {
            // The signs that a cast to byte or a mask of eight or seven bits would take for the right ones.
            for (int sign : of(right.charAt(letter) + 128, right.charAt(letter) + 256, 65535, 0)) {
                Check.failsAndKeeps(name + " of the sign " + sign, Check.IAE, past, x -> telling.tell(x, of(sign)));
            }
            char great = Character.toUpperCase(right.charAt(letter));
            Check.failsAndKeeps(name + " of " + great, Check.IAE, past, x -> telling.tell(x, of(great)));
        }
    }

    // ---- promises 2 and 3

    private static void papers() {
        for (Check.Past past : PASTS) {
            for (int day : of(-1, 901, LOW, HIGH)) {
                Check.failsAndKeeps("paper " + day, Check.IAE, past, x -> x.paper(day));
            }
        }
        for (int day : of(0, 900)) {
            Averagehall x = new Averagehall();
            Check.eq("paper " + day, x.paper(day), 0);
            Check.eq("a fact of it", x.interest(1), 0);
            x.asOf(day);
            Check.eq("counts on the day", x.facts(), 1);
            Check.eq("the next paper", x.paper(day), 1);
            Check.failsAndKeeps("the 41st paper", Check.ISE, EdgesTest::allPapers, y -> y.paper(day));
        }
        Averagehall x = new Averagehall();
        for (int number = 0; number < 40; number++) {
            Check.eq("the paper", x.paper(5), number);
        }
        Check.fails("the 41st paper", Check.ISE, () -> x.paper(5));
        Check.eq("a fact of the 40th", x.interest(1), 0);
        Check.eq("papers behind 200 facts", full().paper(900), 2);
    }

    private static void days() {
        for (Check.Past past : PASTS) {
            for (int day : of(-1, 1000, LOW, HIGH)) {
                Check.failsAndKeeps("asOf " + day, Check.IAE, past, x -> x.asOf(day));
            }
            Averagehall x = past.made();
            int before = x.asOf(0);
            Check.eq("999 at first, or what was set", before == 999 || before == 7, true);
            Check.eq("the one before", x.asOf(999), 0);
            Check.eq("the one before", x.asOf(999), 999);
        }
    }

    // ---- promise 6

    private static void strikes() {
        int firstClause = 2;
        for (int fact = 0; fact < 24; fact++) {
            int number = fact;
            if (fact < firstClause || fact > firstClause + 2) {
                Check.failsAndKeeps("strike " + fact, Check.IOOBE, EdgesTest::lively, x -> x.strike(number));
                Check.failsAndKeeps("strike " + fact, Check.IOOBE, EdgesTest::full, x -> x.strike(number));
            } else {
                Check.eq("strike " + fact, lively().strike(fact), lively().facts());
                Check.failsAndKeeps("strike " + fact, Check.ISE, EdgesTest::full, x -> x.strike(number));
            }
        }
        int next = lively().facts();
        for (int fact : of(-1, next, next + 1, 199, 200, LOW, HIGH)) {
            for (Check.Past past : PASTS) {
                Check.failsAndKeeps("strike " + fact, Check.IOOBE, past, x -> x.strike(fact));
            }
        }
        for (Check.Past past : new Check.Past[] {Averagehall::new, EdgesTest::paperOnly, EdgesTest::allPapers}) {
            Check.failsAndKeeps("strike with nothing told", Check.IOOBE, past, x -> x.strike(0));
        }
        strikesOfWhatDoesNotCount();
    }

    /** "no such fact, whether it counts or not". */
    private static void strikesOfWhatDoesNotCount() {
        Averagehall x = Check.opened(9);
        x.clause('a', 1, true);
        x.interest(1);
        x.asOf(8);
        Check.eq("a clause that does not count yet", x.strike(0), 2);
        Check.fails("no clause, and it does not count yet", Check.IOOBE, () -> x.strike(1));
        Check.fails("a strike that does not count yet", Check.IOOBE, () -> x.strike(2));
        Check.fails("no fact", Check.IOOBE, () -> x.strike(3));
        x.asOf(9);
        Check.eq("struck", x.binding('a'), 72);
        Averagehall first = Check.opened(0);
        for (int number = 0; number < 199; number++) {
            first.clause('a', number, false);
        }
        Check.eq("the clause 198 by the fact 199", first.strike(198), 199);
        Check.eq("struck", first.binding('a'), 197);
    }

    // ---- all places taken

    /** Each kind takes the place of the fact 199, and none takes one more. */
    private static void lastPlace() {
        for (Kind kind : kinds()) {
            Averagehall x = lively();
            fill(x, 199);
            Check.eq(kind.name + " as the last fact", kind.telling.tell(x, kind.usual), 199);
            Check.fails(kind.name + " as the 201st", Check.ISE, () -> kind.telling.tell(x, kind.usual));
            Check.eq(kind.name + " as the last fact: facts", x.facts(), 200);
        }
        Averagehall x = lively();
        fill(x, 199);
        Check.eq("a strike as the last fact", x.strike(3), 199);
        Check.eq("struck", x.binding('a'), 72);
        Check.fails("a strike as the 201st", Check.ISE, () -> x.strike(2));
        Check.eq("not struck", x.binding('y'), 3);
    }

    // ---- promises 24, 25, 27, 28, 30 and 34

    private static final String[] BY_INTEREST = {"rest", "madeGood", "share", "share of salvage", "balance", "due"};

    private static Object ask(String call, Averagehall x, int number) {
        switch (call) {
            case "rest": return x.rest(number);
            case "madeGood": return x.madeGood(number);
            case "share": return x.share(number, false);
            case "share of salvage": return x.share(number, true);
            case "balance": return x.balance(number);
            case "due": return x.due(number);
            default: return x.paid(number);
        }
    }

    private static void indices() {
        for (Check.Past past : PASTS) {
            int interests = past.made().interests();
            for (String call : BY_INTEREST) {
                indices(call, past, interests);
            }
            indices("paid", past, past.made().claims());
        }
        Check.Past none = () -> {
            Averagehall x = lively();
            x.asOf(4);
            return x;
        };
        for (String call : BY_INTEREST) {
            indices(call, none, 0);
        }
        indices("paid", none, 0);
        Check.Past some = () -> {
            Averagehall x = lively();
            x.asOf(6);
            return x;
        };
        indices("rest", some, 2);
        indices("paid", some, 0);
    }

    private static void indices(String call, Check.Past past, int count) {
        for (int number : of(-1, count, count + 1, LOW, HIGH)) {
            Check.failsAndKeeps(call + " " + number, Check.IOOBE, past, x -> ask(call, x, number));
        }
        if (count > 0) {
            Check.eq(call + " of the first one", Check.outcome(() -> ask(call, past.made(), 0)).startsWith("throws"), false);
            Check.eq(call + " of the last one", Check.outcome(() -> ask(call, past.made(), count - 1)).startsWith("throws"), false);
        }
    }
}

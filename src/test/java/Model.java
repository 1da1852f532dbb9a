import java.math.BigInteger;
import java.util.ArrayList;
import java.util.Arrays;
import java.util.Comparator;
import java.util.List;
import java.util.NoSuchElementException;

/** The document reckoned a second time, in the slowest and plainest way, from a list of all that was told. */
final class Model {
    /** Which call told it, its arguments, its number and the day and number of its paper. */
    record Told(String call, int number, int came, int paper, int... args) {
        int arg(int i) {
            return args[i];
        }
    }

    private static final String SUBJECTS = "adensrkbhvwiyt";
    private static final int[] USUAL = {72, 2400, 1200, 6, 0, 0, 0, 0, 4800, 12, 4, 7, 2, 50};

    private final List<Told> all = new ArrayList<>();
    private final List<Integer> papers = new ArrayList<>();
    private int day = 999;

    private static void range(int... valueLeastMost) {
        for (int i = 0; i < valueLeastMost.length; i += 3) {
            if (valueLeastMost[i] < valueLeastMost[i + 1] || valueLeastMost[i] > valueLeastMost[i + 2]) {
                throw new IllegalArgumentException();
            }
        }
    }

    private static void sign(char sign, String signs) {
        if (signs.indexOf(sign) < 0) {
            throw new IllegalArgumentException();
        }
    }

    private int tell(String call, int... args) {
        if (papers.isEmpty() || all.size() == 200) {
            throw new IllegalStateException();
        }
        int paper = papers.size() - 1;
        all.add(new Told(call, all.size(), papers.get(paper), paper, args));
        return all.size() - 1;
    }

    private List<Told> known(String call) {
        return all.stream().filter(t -> t.came <= day && t.call.equals(call)).toList();
    }

    private Told lastKnown(String call) {
        List<Told> those = known(call);
        return those.isEmpty() ? null : those.get(those.size() - 1);
    }

    int paper(int day) {
        range(day, 0, 900);
        if (papers.size() == 40) {
            throw new IllegalStateException();
        }
        papers.add(day);
        return papers.size() - 1;
    }

    int asOf(int day) {
        range(day, 0, 999);
        int before = this.day;
        this.day = day;
        return before;
    }

    int facts() {
        return (int) all.stream().filter(t -> t.came <= day).count();
    }

    int clause(char subject, int value, boolean isRider) {
        sign(subject, SUBJECTS);
        range(value, "vy".indexOf(subject) >= 0 ? 1 : 0, subject == 'y' ? 3 : "srkb".indexOf(subject) >= 0 ? 1 : 9999);
        return tell("clause", subject, value, isRider ? 1 : 0);
    }

    int strike(int fact) {
        if (fact < 0 || fact >= all.size() || !all.get(fact).call.equals("clause")) {
            throw new IndexOutOfBoundsException();
        }
        return tell("strike", fact);
    }

    int binding(char subject) {
        sign(subject, SUBJECTS);
        int value = USUAL[SUBJECTS.indexOf(subject)];
        List<Told> strikes = known("strike");
        for (int isRider = 0; isRider <= 1; isRider++) {
            for (Told clause : known("clause")) {
                if (clause.arg(0) == subject && clause.arg(2) == isRider
                        && strikes.stream().noneMatch(s -> s.arg(0) == clause.number)) {
                    value = clause.arg(1);
                }
            }
        }
        return value;
    }

    int notice(int hour, boolean atBerth) {
        range(hour, 0, 4799);
        return tell("notice", hour, atBerth ? 1 : 0);
    }

    int stop(char cause, int from, int to) {
        sign(cause, "rkso");
        range(from, 0, 4799);
        range(to, from + 1, 4800);
        return tell("stop", cause, from, to);
    }

    int holiday(int day) {
        range(day, 0, 199);
        return tell("holiday", day);
    }

    int moment(char what, int hour) {
        sign(what, "fdge");
        range(hour, 0, 4799);
        return tell("moment", what, hour);
    }

    int run(int day, int wind, int miles) {
        range(day, 0, 199, wind, 0, 12, miles, 0, 600);
        return tell("run", day, wind, miles);
    }

    private Integer hourOf(char what) {
        return known("moment").stream().filter(t -> t.arg(0) == what)
                .max(Comparator.comparingInt(Told::came).thenComparingInt(Told::paper).thenComparingInt(Told::number))
                .map(t -> t.arg(1)).orElse(null);
    }

    private boolean isHoliday(int day) {
        return known("holiday").stream().anyMatch(t -> t.arg(0) == day);
    }

    private boolean isOfficeHour(int hour) {
        return hour / 24 % 7 <= 4 && !isHoliday(hour / 24) && hour % 24 >= 8 && hour % 24 <= 16;
    }

    private static boolean isStopped(List<Told> stops, char cause, int hour) {
        for (Told t : stops) {
            if (t.arg(0) == cause && t.arg(1) <= hour && hour < t.arg(2)) {
                return true;
            }
        }
        return false;
    }

    int laytimeStart() {
        Integer first = null;
        for (Told notice : known("notice")) {
            if (notice.arg(1) == 1 || binding('b') == 1) {
                int hour = notice.arg(0);
                while (!isOfficeHour(hour)) {
                    hour++;
                }
                first = first == null || hour < first ? (Integer) hour : first;
            }
        }
        if (first == null) {
            throw new NoSuchElementException();
        }
        return first + binding('n');
    }

    int used() {
        int start = laytimeStart();
        Integer finish = hourOf('f');
        if (finish == null) {
            throw new NoSuchElementException();
        }
        int allowed = binding('a');
        boolean sundays = binding('s') == 1;
        boolean rain = binding('r') == 1;
        boolean strikes = binding('k') == 1;
        List<Told> stops = known("stop");
        int used = 0;
        for (int hour = start; hour < finish; hour++) {
            boolean isFree = !sundays && (hour / 24 % 7 == 6 || isHoliday(hour / 24)) || !rain && isStopped(stops, 'r', hour)
                    || !strikes && isStopped(stops, 'k', hour) || isStopped(stops, 's', hour);
            used += used >= allowed || !isFree ? 1 : 0;
        }
        return used;
    }

    int demurrage() {
        int over = used() - binding('a');
        return over > 0 ? (int) (over * (long) binding('d') / 24) : -(int) (-over * (long) binding('e') / 24);
    }

    int hoursLost() {
        int days = 0;
        BigInteger miles = BigInteger.ZERO;
        List<Told> log = known("run");
        int greatestWind = binding('w');
        for (int day = 0; day < 200; day++) {
            int asked = day;
            Told entry = log.stream().filter(t -> t.arg(0) == asked).reduce((a, b) -> b).orElse(null);
            if (entry != null && entry.arg(1) <= greatestWind) {
                days++;
                miles = miles.add(BigInteger.valueOf(entry.arg(2)));
            }
        }
        BigInteger[] parts = miles.divideAndRemainder(BigInteger.valueOf(binding('v')));
        int hours = parts[0].intValue() + (parts[1].signum() > 0 ? 1 : 0);
        return hours > 24 * days ? 0 : 24 * days - hours;
    }

    long hire() {
        Integer from = hourOf('d');
        Integer to = hourOf('g');
        if (from == null || to == null || from >= to) {
            throw new NoSuchElementException();
        }
        List<Told> stops = known("stop");
        long hours = 0;
        for (int hour = from; hour < to; hour++) {
            hours += isStopped(stops, 'o', hour) ? 0 : 1;
        }
        hours -= hoursLost();
        return hours < 0 ? 0 : hours * binding('h') / 24;
    }

    int interest(int value) {
        range(value, 1, 100000);
        return tell("interest", value);
    }

    int interests() {
        return known("interest").size();
    }

    int peril(char kind, int interest, int amount, int hour) {
        sign(kind, "lg");
        range(interest, 0, 19, amount, 1, 100000, hour, 0, 4799);
        return tell("peril", kind, interest, amount, hour);
    }

    int expense(char kind, int payer, int amount, int day) {
        sign(kind, "pfrw");
        range(payer, 0, 19, amount, 1, 100000, day, 0, 199);
        return tell("expense", kind, payer, amount, day);
    }

    int substitute(int payer, int amount, int saved, int day) {
        range(payer, 0, 19, amount, 1, 100000, saved, 0, 100000, day, 0, 199);
        return tell("substitute", payer, amount, saved, day);
    }

    int award(int amount, int hour) {
        range(amount, 1, 100000, hour, 0, 4799);
        return tell("award", amount, hour);
    }

    /** Rests in the first row and what was given up in the second, by the perils ahead of an hour. */
    private long[][] suffered(int ahead) {
        List<Told> interests = known("interest");
        long[] rests = interests.stream().mapToLong(t -> t.arg(0)).toArray();
        long[] given = new long[rests.length];
        List<Told> perils = known("peril");
        for (int hour = 0; hour < ahead; hour++) {
            for (Told peril : perils) {
                if (peril.arg(3) == hour && peril.arg(1) < rests.length) {
                    long amount = Math.min(peril.arg(2), rests[peril.arg(1)]);
                    rests[peril.arg(1)] -= amount;
                    given[peril.arg(1)] += peril.arg(0) == 'g' ? amount : 0;
                }
            }
        }
        return new long[][] {rests, given};
    }

    private long[][] atTheEnd() {
        long[][] end = suffered(4800);
        if (Arrays.stream(end[0]).sum() == 0) {
            Arrays.fill(end[1], 0);
        }
        return end;
    }

    private long[] outlays() {
        long[] sums = new long[interests()];
        int rules = binding('y');
        for (Told expense : known("expense")) {
            int kind = expense.arg(0);
            boolean isIn = rules == 1 || rules == 2 && kind != 'w' || rules == 3 && (kind == 'p' || kind == 'f');
            if (isIn && expense.arg(1) < sums.length) {
                boolean isAdded = rules < 3 && (kind == 'p' || kind == 'r');
                sums[expense.arg(1)] += expense.arg(2) + (isAdded ? expense.arg(2) / 50 : 0)
                        + interestOn(expense.arg(2), expense.arg(3));
            }
        }
        for (Told expense : known("substitute")) {
            if (expense.arg(0) < sums.length) {
                int amount = expense.arg(1) < expense.arg(2) ? expense.arg(1) : expense.arg(2);
                sums[expense.arg(0)] += amount + interestOn(amount, expense.arg(3));
            }
        }
        if (rules < 3 && sums.length > 0 && lastKnown("award") != null) {
            sums[0] += lastKnown("award").arg(0);
        }
        return sums;
    }

    private long interestOn(long amount, int from) {
        Integer end = hourOf('e');
        if (end == null || end / 24 <= from) {
            return 0;
        }
        return BigInteger.valueOf(amount).multiply(BigInteger.valueOf(binding('i')))
                .multiply(BigInteger.valueOf(end / 24 - from)).divide(BigInteger.valueOf(36500)).longValue();
    }

    private static long[] shared(long whole, long[] weights) {
        long all = Arrays.stream(weights).sum();
        long[] shares = new long[weights.length];
        if (all == 0) {
            return shares;
        }
        long left = whole;
        List<long[]> remainders = new ArrayList<>();
        for (int i = 0; i < weights.length; i++) {
            BigInteger[] parts = BigInteger.valueOf(whole).multiply(BigInteger.valueOf(weights[i]))
                    .divideAndRemainder(BigInteger.valueOf(all));
            shares[i] = parts[0].longValue();
            left -= shares[i];
            remainders.add(new long[] {-parts[1].longValue(), i});
        }
        remainders.sort(Comparator.comparingLong((long[] r) -> r[0]).thenComparingLong(r -> r[1]));
        for (int i = 0; i < left; i++) {
            shares[(int) remainders.get(i)[1]]++;
        }
        return shares;
    }

    private void known(int interest) {
        if (interest < 0 || interest >= interests()) {
            throw new IndexOutOfBoundsException();
        }
    }

    int rest(int interest) {
        known(interest);
        return (int) atTheEnd()[0][interest];
    }

    int madeGood(int interest) {
        known(interest);
        return (int) atTheEnd()[1][interest];
    }

    long average() {
        return Arrays.stream(atTheEnd()[1]).sum() + Arrays.stream(outlays()).sum();
    }

    private long[] shares(boolean ofSalvage) {
        if (!ofSalvage) {
            long[][] end = atTheEnd();
            long[] weights = new long[end[0].length];
            Arrays.setAll(weights, i -> end[0][i] + end[1][i]);
            return shared(average(), weights);
        }
        Told award = lastKnown("award");
        return award == null || binding('y') != 3 ? new long[interests()] : shared(award.arg(0), suffered(award.arg(1))[0]);
    }

    int share(int interest, boolean ofSalvage) {
        known(interest);
        return (int) shares(ofSalvage)[interest];
    }

    private long[] allBalances() {
        long[] sums = new long[interests()];
        long[] average = shares(false);
        long[] salvage = shares(true);
        long[] given = atTheEnd()[1];
        long[] outlays = outlays();
        Arrays.setAll(sums, i -> average[i] + salvage[i] - given[i] - outlays[i]);
        return sums;
    }

    int balance(int interest) {
        known(interest);
        return (int) allBalances()[interest];
    }

    int deposit(int interest, int amount) {
        range(interest, 0, 19, amount, 1, 100000);
        return tell("deposit", interest, amount);
    }

    int due(int interest) {
        int balance = balance(interest);
        int deposits = known("deposit").stream().filter(t -> t.arg(0) == interest).mapToInt(t -> t.arg(1)).sum();
        return (balance > 0 ? balance : 0) - deposits;
    }

    int tons(int tons) {
        range(tons, 1, 9999);
        return tell("tons", tons);
    }

    int claim(int rank, int amount, int day) {
        range(rank, 0, 3, amount, 1, 100000, day, 0, 900);
        return tell("claim", rank, amount, day);
    }

    int claims() {
        return known("claim").size();
    }

    int paid(int claim) {
        List<Told> claims = known("claim");
        if (claim < 0 || claim >= claims.size()) {
            throw new IndexOutOfBoundsException();
        }
        Told tons = lastKnown("tons");
        long left = (long) binding('t') * (tons == null ? 100 : tons.arg(0));
        Integer end = hourOf('e');
        long[] payments = new long[claims.size()];
        for (int rank = 0; rank <= 3; rank++) {
            List<Told> those = new ArrayList<>();
            for (Told t : claims) {
                if (t.arg(0) == rank && (end == null || t.arg(2) <= end / 24 + 365)) {
                    those.add(t);
                }
            }
            long[] amounts = those.stream().mapToLong(t -> t.arg(1)).toArray();
            long[] paid = Arrays.stream(amounts).sum() <= left ? amounts : shared(left, amounts);
            for (int i = 0; i < paid.length; i++) {
                payments[claims.indexOf(those.get(i))] = paid[i];
                left -= paid[i];
            }
        }
        return (int) payments[claim];
    }

    float goodShare() {
        if (average() == 0) {
            throw new ArithmeticException();
        }
        return (float) Arrays.stream(atTheEnd()[1]).sum() / (float) average();
    }

    double meanBalance() {
        if (interests() == 0) {
            throw new ArithmeticException();
        }
        return (double) Arrays.stream(allBalances()).map(Math::abs).sum() / (double) interests();
    }

    boolean isConsistent() {
        return true;
    }
}

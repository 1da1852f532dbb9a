import java.util.NoSuchElementException;

/**
 * The reckoning of a voyage gone wrong, as of any day, by the papers that had come in by then.
 * What is told is kept as facts in a book; every answer is reckoned anew from those that count.
 */
public final class Averagehall {
    private static final int NONE = -1;
    private static final int DAY = 24;
    private static final int DAYS = 200;
    private static final int HOURS = 4800;
    private static final int WEEK = 7;
    private static final int SUNDAY = 6;
    private static final int WORKDAYS = 5;
    private static final int OFFICE_OPENS = 8;
    private static final int OFFICE_LAST_HOUR = 16;
    private static final int MOST_FACTS = 200;
    private static final int MOST_PAPERS = 40;
    private static final int LAST_PAPER_DAY = 900;
    private static final int LAST_DAY = 999;
    private static final int NEVER = LAST_DAY + 1;
    private static final int LAST_PARTY = 19;
    private static final int MOST_AMOUNT = 100000;
    private static final int MOST_TONS = 9999;
    private static final int USUAL_TONS = 100;
    private static final int STRONGEST_WIND = 12;
    private static final int MOST_MILES = 600;
    private static final int LAST_RANK = 3;
    private static final int DAYS_TO_CLAIM = 365;
    private static final int YOUNGEST_RULES = 3;
    private static final long INTEREST_DIVISOR = 36500;

    private final Book book = new Book();
    private final Laytime laytime = new Laytime();
    private final Charter charter = new Charter();
    private final Adjustment adjustment = new Adjustment();
    private final Fund fund = new Fund();

    public Averagehall() {
    }

    // ---- papers

    public int paper(int day) throws IllegalArgumentException, IllegalStateException {
        demand(isWithin(day, 0, LAST_PAPER_DAY));
        if (!book.takesPaper()) {
            throw new IllegalStateException("there are 40 papers");
        }
        return book.openPaper(day);
    }

    public int asOf(int day) throws IllegalArgumentException {
        demand(isWithin(day, 0, LAST_DAY));
        return book.lookFrom(day);
    }

    public int facts() {
        return book.countAll();
    }

    // ---- clauses

    public int clause(char subject, int value, boolean isRider)
            throws IllegalArgumentException, IllegalStateException {
        Subject about = Subject.signed(subject);
        demand(about != null && isWithin(value, about.least, about.most));
        return tell(Topic.CLAUSE, subject, isRider ? 1 : 0, value, 0);
    }

    public int strike(int fact) throws IndexOutOfBoundsException, IllegalStateException {
        if (!book.hasClause(fact)) {
            throw new IndexOutOfBoundsException("no such fact, or no clause");
        }
        int number = tell(Topic.STRIKE, 0, fact, 0, 0);
        book.strikeOut(fact);
        return number;
    }

    public int binding(char subject) throws IllegalArgumentException {
        Subject about = Subject.signed(subject);
        if (about == null) {
            throw new IllegalArgumentException("no such subject");
        }
        return book.bound(about);
    }

    // ---- laytime and hire

    public int notice(int hour, boolean atBerth) throws IllegalArgumentException, IllegalStateException {
        demand(isHour(hour));
        return tell(Topic.NOTICE, 0, atBerth ? 1 : 0, 0, hour);
    }

    public int stop(char cause, int from, int to) throws IllegalArgumentException, IllegalStateException {
        demand("rkso".indexOf(cause) >= 0 && isHour(from) && to > from && to <= HOURS);
        return tell(Topic.STOP, cause, 0, to, from);
    }

    public int holiday(int day) throws IllegalArgumentException, IllegalStateException {
        demand(isDay(day));
        return tell(Topic.HOLIDAY, 0, 0, 0, day);
    }

    public int moment(char what, int hour) throws IllegalArgumentException, IllegalStateException {
        demand("fdge".indexOf(what) >= 0 && isHour(hour));
        return tell(Topic.MOMENT, what, 0, 0, hour);
    }

    public int run(int day, int wind, int miles) throws IllegalArgumentException, IllegalStateException {
        demand(isDay(day) && isWithin(wind, 0, STRONGEST_WIND) && isWithin(miles, 0, MOST_MILES));
        return tell(Topic.RUN, 0, wind, miles, day);
    }

    public int laytimeStart() throws NoSuchElementException {
        int start = laytime.startHour(book);
        if (start == NONE) {
            throw new NoSuchElementException("no notice counts");
        }
        return start;
    }

    public int used() throws NoSuchElementException {
        return hoursUsed();
    }

    public int demurrage() throws NoSuchElementException {
        int hours = hoursUsed();
        int allowed = book.bound(Subject.HOURS_ALLOWED);
        int late = Math.max(0, hours - allowed);
        int early = Math.max(0, allowed - hours);
        return book.bound(Subject.DEMURRAGE) * late / DAY - book.bound(Subject.DESPATCH) * early / DAY;
    }

    public int hoursLost() {
        return charter.lostBySpeed(book);
    }

    public long hire() throws NoSuchElementException {
        int delivered = book.momentHour('d');
        int givenBack = book.momentHour('g');
        if (delivered == NONE || givenBack == NONE || delivered >= givenBack) {
            throw new NoSuchElementException("not delivered, or not given back behind it");
        }
        long hours = charter.hoursOnHire(book, delivered, givenBack) - charter.lostBySpeed(book);
        return book.bound(Subject.HIRE) * Math.max(0L, hours) / DAY;
    }

    // ---- average and salvage

    public int interest(int value) throws IllegalArgumentException, IllegalStateException {
        demand(isWithin(value, 1, MOST_AMOUNT));
        return tell(Topic.INTEREST, 0, 0, value, 0);
    }

    public int interests() {
        return book.count(Topic.INTEREST);
    }

    public int peril(char kind, int interest, int amount, int hour)
            throws IllegalArgumentException, IllegalStateException {
        demand("lg".indexOf(kind) >= 0 && isParty(interest) && isWithin(amount, 1, MOST_AMOUNT) && isHour(hour));
        return tell(Topic.PERIL, kind, interest, amount, hour);
    }

    public int expense(char kind, int payer, int amount, int day)
            throws IllegalArgumentException, IllegalStateException {
        demand("pfrw".indexOf(kind) >= 0 && isParty(payer) && isWithin(amount, 1, MOST_AMOUNT) && isDay(day));
        return tell(Topic.EXPENSE, kind, payer, amount, day);
    }

    public int substitute(int payer, int amount, int saved, int day)
            throws IllegalArgumentException, IllegalStateException {
        demand(isParty(payer) && isWithin(amount, 1, MOST_AMOUNT)
                && isWithin(saved, 0, MOST_AMOUNT) && isDay(day));
        return tell(Topic.EXPENSE, 's', payer, Math.min(amount, saved), day);
    }

    public int award(int amount, int hour) throws IllegalArgumentException, IllegalStateException {
        demand(isWithin(amount, 1, MOST_AMOUNT) && isHour(hour));
        return tell(Topic.AWARD, 0, 0, amount, hour);
    }

    public int rest(int interest) throws IndexOutOfBoundsException {
        demandInterest(interest);
        adjustment.reckon(book);
        return (int) adjustment.rests.at(interest);
    }

    public int madeGood(int interest) throws IndexOutOfBoundsException {
        demandInterest(interest);
        adjustment.reckon(book);
        return (int) adjustment.sacrifices.at(interest);
    }

    public long average() {
        adjustment.reckon(book);
        return adjustment.whole();
    }

    public int share(int interest, boolean ofSalvage) throws IndexOutOfBoundsException {
        demandInterest(interest);
        adjustment.reckon(book);
        return (int) (ofSalvage ? adjustment.salvage : adjustment.contribution).portion(interest);
    }

    public int balance(int interest) throws IndexOutOfBoundsException {
        demandInterest(interest);
        adjustment.reckon(book);
        return (int) adjustment.balanceOf(interest);
    }

    public int deposit(int interest, int amount) throws IllegalArgumentException, IllegalStateException {
        demand(isParty(interest) && isWithin(amount, 1, MOST_AMOUNT));
        return tell(Topic.DEPOSIT, 0, interest, amount, 0);
    }

    public int due(int interest) throws IndexOutOfBoundsException {
        demandInterest(interest);
        adjustment.reckon(book);
        return (int) (Math.max(0L, adjustment.balanceOf(interest)) - book.deposited(interest));
    }

    // ---- the fund and figures

    public int tons(int tons) throws IllegalArgumentException, IllegalStateException {
        demand(isWithin(tons, 1, MOST_TONS));
        return tell(Topic.TONS, 0, 0, tons, 0);
    }

    public int claim(int rank, int amount, int day) throws IllegalArgumentException, IllegalStateException {
        demand(isWithin(rank, 0, LAST_RANK) && isWithin(amount, 1, MOST_AMOUNT)
                && isWithin(day, 0, LAST_PAPER_DAY));
        return tell(Topic.CLAIM, 0, rank, amount, day);
    }

    public int claims() {
        return book.count(Topic.CLAIM);
    }

    public int paid(int claim) throws IndexOutOfBoundsException {
        if (claim < 0 || claim >= book.count(Topic.CLAIM)) {
            throw new IndexOutOfBoundsException("no such claim");
        }
        fund.reckon(book);
        return (int) fund.payments.at(claim);
    }

    public float goodShare() throws ArithmeticException {
        adjustment.reckon(book);
        long whole = adjustment.whole();
        if (whole == 0) {
            throw new ArithmeticException("the average is 0");
        }
        return (float) adjustment.sacrifices.sum() / (float) whole;
    }

    public double meanBalance() throws ArithmeticException {
        adjustment.reckon(book);
        int parties = adjustment.parties;
        if (parties == 0) {
            throw new ArithmeticException("there are no interests");
        }
        return (double) adjustment.sumAwayFromZero() / (double) parties;
    }

    public boolean isConsistent() {
        adjustment.reckon(book);
        fund.reckon(book);
        return adjustment.isEven() && fund.isKept();
    }

    // ---- what the calls have in common

    private static boolean isWithin(int value, int least, int most) {
        return value >= least && value <= most;
    }

    private static boolean isHour(int hour) {
        return isWithin(hour, 0, HOURS - 1);
    }

    private static boolean isDay(int day) {
        return isWithin(day, 0, DAYS - 1);
    }

    private static boolean isParty(int interest) {
        return isWithin(interest, 0, LAST_PARTY);
    }

    private static void demand(boolean isRight) {
        if (!isRight) {
            throw new IllegalArgumentException("there is no such thing, or a number is out of range");
        }
    }

    private int tell(Topic topic, int sign, int of, int amount, int time) {
        if (!book.takesFact()) {
            throw new IllegalStateException("no paper is open, or there are 200 facts");
        }
        return book.enter(topic, sign, of, amount, time);
    }

    private int hoursUsed() {
        int start = laytime.startHour(book);
        int finish = book.momentHour('f');
        if (start == NONE || finish == NONE) {
            throw new NoSuchElementException("no notice counts, or loading was not finished");
        }
        return laytime.countUsed(book, start, finish);
    }

    private void demandInterest(int interest) {
        if (interest < 0 || interest >= book.count(Topic.INTEREST)) {
            throw new IndexOutOfBoundsException("no such interest");
        }
    }

    /** What a fact tells of, with what its sign, of, amount and time then are. */
    private enum Topic {
        /** The subject, 1 for a rider, the value. */
        CLAUSE,
        /** Of: the number of the clause's fact. */
        STRIKE,
        /** Of: 1 at the berth; time: the hour. */
        NOTICE,
        /** The cause; time: the first hour; amount: the hour behind the last one. */
        STOP,
        /** Time: the day. */
        HOLIDAY,
        /** The moment; time: the hour. */
        MOMENT,
        /** Of: the wind; amount: the miles; time: the day. */
        RUN,
        /** Amount: the value. */
        INTEREST,
        /** The kind, the interest, the amount, the hour. */
        PERIL,
        /** The kind, the payer, the amount that can be let in, the day. */
        EXPENSE,
        /** The amount, the hour. */
        AWARD,
        /** Of: the interest; amount: the amount. */
        DEPOSIT,
        /** Amount: the tons. */
        TONS,
        /** Of: the rank; the amount, the day. */
        CLAIM
    }

    /** What clauses can be about, with what binds without any and what may be told. */
    private enum Subject {
        HOURS_ALLOWED('a', 72, 0, 9999),
        DEMURRAGE('d', 2400, 0, 9999),
        DESPATCH('e', 1200, 0, 9999),
        HOURS_OF_NOTICE('n', 6, 0, 9999),
        SUNDAYS_COUNT('s', 0, 0, 1),
        RAIN_COUNTS('r', 0, 0, 1),
        STRIKES_COUNT('k', 0, 0, 1),
        NOTICE_AWAY('b', 0, 0, 1),
        HIRE('h', 4800, 0, 9999),
        SPEED('v', 12, 1, 9999),
        GREATEST_WIND('w', 4, 0, 9999),
        HUNDREDTHS('i', 7, 0, 9999),
        RULES('y', 2, 1, 3),
        COINS_FOR_A_TON('t', 50, 0, 9999);

        private static final Subject[] ALL = values();

        final int sign;
        final int usual;
        final int least;
        final int most;

        Subject(int sign, int usual, int least, int most) {
            this.sign = sign;
            this.usual = usual;
            this.least = least;
            this.most = most;
        }

        /** The subject of a sign, or null. */
        static Subject signed(int sign) {
            for (Subject subject : ALL) {
                if (subject.sign == sign) {
                    return subject;
                }
            }
            return null;
        }
    }

    /** One thing told. */
    private static final class Fact {
        final Topic topic;
        final int came;
        final int sign;
        final int of;
        final int amount;
        final int time;
        /** The earliest day of a paper that struck it out; only a clause ever is. */
        int struckFrom = NEVER;

        Fact(Topic topic, int came, int sign, int of, int amount, int time) {
            this.topic = topic;
            this.came = came;
            this.sign = sign;
            this.of = of;
            this.amount = amount;
            this.time = time;
        }
    }

    /** All papers and facts, and the day as of which they are looked at. */
    private static final class Book {
        private final Fact[] entries = new Fact[MOST_FACTS];
        private int told;
        private int papers;
        private int openDay;
        private int lookDay = LAST_DAY;

        boolean takesPaper() {
            return papers < MOST_PAPERS;
        }

        int openPaper(int day) {
            openDay = day;
            papers++;
            return papers - 1;
        }

        int lookFrom(int day) {
            int before = lookDay;
            lookDay = day;
            return before;
        }

        boolean takesFact() {
            return papers > 0 && told < entries.length;
        }

        /** The number of the new fact, or NONE if there is no room. */
        int enter(Topic topic, int sign, int of, int amount, int time) {
            int number = told;
            if (number < 0 || number >= entries.length) {
                return NONE;
            }
            entries[number] = new Fact(topic, openDay, sign, of, amount, time);
            told = number + 1;
            return number;
        }

        int size() {
            return told;
        }

        /** The fact of a number, whether it counts or not, or null. */
        private Fact entry(int number) {
            return number >= 0 && number < told && number < entries.length ? entries[number] : null;
        }

        /** The fact of a number if it is of that topic and counts, otherwise null. */
        Fact counting(Topic topic, int number) {
            Fact fact = entry(number);
            return fact != null && fact.topic == topic && fact.came <= lookDay ? fact : null;
        }

        int countAll() {
            int count = 0;
            for (int n = 0; n < told; n++) {
                Fact fact = entry(n);
                if (fact != null && fact.came <= lookDay) {
                    count++;
                }
            }
            return count;
        }

        int count(Topic topic) {
            int count = 0;
            for (int n = 0; n < told; n++) {
                if (counting(topic, n) != null) {
                    count++;
                }
            }
            return count;
        }

        /** The fact with the highest number of those of a topic that count, or null. */
        Fact last(Topic topic) {
            for (int n = told - 1; n >= 0; n--) {
                Fact fact = counting(topic, n);
                if (fact != null) {
                    return fact;
                }
            }
            return null;
        }

        boolean hasClause(int number) {
            Fact fact = entry(number);
            return fact != null && fact.topic == Topic.CLAUSE;
        }

        void strikeOut(int number) {
            Fact fact = entry(number);
            if (fact != null) {
                fact.struckFrom = Math.min(fact.struckFrom, openDay);
            }
        }

        int bound(Subject subject) {
            Fact print = null;
            for (int n = told - 1; n >= 0; n--) {
                Fact clause = counting(Topic.CLAUSE, n);
                if (clause == null || clause.sign != subject.sign || clause.struckFrom <= lookDay) {
                    continue;
                }
                if (clause.of == 1) {
                    return clause.amount;
                }
                if (print == null) {
                    print = clause;
                }
            }
            return print == null ? subject.usual : print.amount;
        }

        /** The hour of a moment, or NONE: the paper that came in last has it, not the one told last. */
        int momentHour(char what) {
            Fact stands = null;
            for (int n = 0; n < told; n++) {
                Fact moment = counting(Topic.MOMENT, n);
                if (moment == null || moment.sign != what) {
                    continue;
                }
                if (stands == null || moment.came >= stands.came) {
                    stands = moment;
                }
            }
            return stands == null ? NONE : stands.time;
        }

        /** The day of the end, or NONE. */
        int endDay() {
            int hour = momentHour('e');
            return hour == NONE ? NONE : hour / DAY;
        }

        long deposited(int interest) {
            long sum = 0;
            for (int n = 0; n < told; n++) {
                Fact deposit = counting(Topic.DEPOSIT, n);
                if (deposit != null && deposit.of == interest) {
                    sum += deposit.amount;
                }
            }
            return sum;
        }
    }

    /** A row of numbers; a place outside it holds 0 and keeps nothing. */
    private static final class Row {
        private final long[] cells;

        Row(int length) {
            cells = new long[Math.max(0, length)];
        }

        long at(int place) {
            return place >= 0 && place < cells.length ? cells[place] : 0;
        }

        void put(int place, long value) {
            if (place >= 0 && place < cells.length) {
                cells[place] = value;
            }
        }

        void add(int place, long more) {
            if (place >= 0 && place < cells.length) {
                cells[place] += more;
            }
        }

        void wipe() {
            for (int place = 0; place < cells.length; place++) {
                cells[place] = 0;
            }
        }

        long sum() {
            long sum = 0;
            for (int place = 0; place < cells.length; place++) {
                sum += cells[place];
            }
            return sum;
        }

        /** Puts a value among so many that lie sorted at the front. */
        void insert(int count, long value) {
            int place = count;
            for (; place > 0 && at(place - 1) > value; place--) {
                put(place, at(place - 1));
            }
            put(place, value);
        }
    }

    /** A set of hours, a day in each number as bits, so that a long stop costs few steps. */
    private static final class Hours {
        private static final long WHOLE_DAY = (1L << DAY) - 1;

        private final Row days = new Row(DAYS);

        void wipe() {
            days.wipe();
        }

        boolean has(int hour) {
            return hour >= 0 && (days.at(hour / DAY) >> (hour % DAY) & 1) == 1;
        }

        void addDay(int day) {
            days.put(day, WHOLE_DAY);
        }

        void addSpan(int from, int to) {
            for (int day = from / DAY; day < DAYS && day * DAY < to; day++) {
                long bits = bitsBelow(to - day * DAY) & ~bitsBelow(from - day * DAY);
                days.put(day, days.at(day) | bits);
            }
        }

        void addStops(Book book, char cause) {
            for (int n = 0; n < book.size(); n++) {
                Fact stop = book.counting(Topic.STOP, n);
                if (stop != null && stop.sign == cause) {
                    addSpan(stop.time, stop.amount);
                }
            }
        }

        void addHolidays(Book book) {
            for (int n = 0; n < book.size(); n++) {
                Fact holiday = book.counting(Topic.HOLIDAY, n);
                if (holiday != null) {
                    addDay(holiday.time);
                }
            }
        }

        private static long bitsBelow(int hour) {
            if (hour <= 0) {
                return 0;
            }
            return hour >= DAY ? WHOLE_DAY : (1L << hour) - 1;
        }
    }

    /** When laytime starts and which of its hours are used. */
    private static final class Laytime {
        private final Hours holidays = new Hours();
        private final Hours idle = new Hours();

        /** The hour, or NONE if no notice counts. */
        int startHour(Book book) {
            holidays.wipe();
            holidays.addHolidays(book);
            boolean isAwayEnough = book.bound(Subject.NOTICE_AWAY) == 1;
            int first = NONE;
            for (int n = 0; n < book.size(); n++) {
                Fact notice = book.counting(Topic.NOTICE, n);
                if (notice == null || (notice.of != 1 && !isAwayEnough)) {
                    continue;
                }
                int hour = officeHour(notice.time);
                first = first == NONE ? hour : Math.min(first, hour);
            }
            return first == NONE ? NONE : first + book.bound(Subject.HOURS_OF_NOTICE);
        }

        /** The calendar is searched a week beyond the last day, for notices given behind its last office hour. */
        private int officeHour(int given) {
            int day = given % DAY > OFFICE_LAST_HOUR ? given / DAY + 1 : given / DAY;
            while (day < DAYS + WEEK && !isWorkday(day)) {
                day++;
            }
            return Math.max(given, day * DAY + OFFICE_OPENS);
        }

        private boolean isWorkday(int day) {
            return day % WEEK < WORKDAYS && !holidays.has(day * DAY);
        }

        int countUsed(Book book, int start, int finish) {
            gatherIdle(book);
            int allowed = book.bound(Subject.HOURS_ALLOWED);
            int count = 0;
            for (int hour = start; hour < finish; hour++) {
                if (count >= allowed || !idle.has(hour)) {
                    count++;
                }
            }
            return count;
        }

        private void gatherIdle(Book book) {
            idle.wipe();
            idle.addStops(book, 's');
            if (book.bound(Subject.RAIN_COUNTS) == 0) {
                idle.addStops(book, 'r');
            }
            if (book.bound(Subject.STRIKES_COUNT) == 0) {
                idle.addStops(book, 'k');
            }
            if (book.bound(Subject.SUNDAYS_COUNT) == 0) {
                idle.addHolidays(book);
                for (int day = SUNDAY; day < DAYS; day += WEEK) {
                    idle.addDay(day);
                }
            }
        }
    }

    /** Which hours of hire count, and which are lost by speed. */
    private static final class Charter {
        private final Hours offHire = new Hours();
        /** For each day the number of the fact that logged it last, and one; 0 if none did. */
        private final Row log = new Row(DAYS);

        int hoursOnHire(Book book, int from, int to) {
            offHire.wipe();
            offHire.addStops(book, 'o');
            int count = 0;
            for (int hour = from; hour < to; hour++) {
                if (!offHire.has(hour)) {
                    count++;
                }
            }
            return count;
        }

        int lostBySpeed(Book book) {
            readLog(book);
            int greatestWind = book.bound(Subject.GREATEST_WIND);
            int days = 0;
            int miles = 0;
            for (int day = 0; day < DAYS; day++) {
                Fact logged = book.counting(Topic.RUN, (int) log.at(day) - 1);
                if (logged != null && logged.of <= greatestWind) {
                    days++;
                    miles += logged.amount;
                }
            }
            int speed = Math.max(1, book.bound(Subject.SPEED));
            return Math.max(0, DAY * days - (miles + speed - 1) / speed);
        }

        private void readLog(Book book) {
            log.wipe();
            for (int n = 0; n < book.size(); n++) {
                Fact logged = book.counting(Topic.RUN, n);
                if (logged != null) {
                    log.put(logged.time, n + 1);
                }
            }
        }
    }

    /** Shares of a whole by weights that balance to the last coin. */
    private static final class Sharing {
        private final Row weights = new Row(MOST_FACTS);
        private final Row portions = new Row(MOST_FACTS);
        private final Row remainders = new Row(MOST_FACTS);
        private int count;
        private long allWeights;

        void begin() {
            count = 0;
            allWeights = 0;
        }

        void join(long weight) {
            weights.put(count, weight);
            count++;
            allWeights += weight;
        }

        long weight(int member) {
            return weights.at(member);
        }

        long allWeights() {
            return allWeights;
        }

        long portion(int member) {
            return portions.at(member);
        }

        void spread(long whole) {
            long left = whole;
            for (int member = 0; member < count; member++) {
                long product = whole * weights.at(member);
                long portion = allWeights > 0 ? product / allWeights : 0;
                portions.put(member, portion);
                remainders.put(member, product - portion * allWeights);
                left -= portion;
            }
            if (allWeights > 0) {
                handOut(left);
            }
        }

        private void handOut(long coins) {
            for (int given = 0; given < count && given < coins; given++) {
                int member = greatestRemainder();
                portions.add(member, 1);
                remainders.put(member, NONE);
            }
        }

        private int greatestRemainder() {
            int best = 0;
            for (int member = 1; member < count; member++) {
                if (remainders.at(member) > remainders.at(best)) {
                    best = member;
                }
            }
            return best;
        }

        boolean isNothingOr(long whole) {
            boolean isNothing = true;
            long sum = 0;
            for (int member = 0; member < count; member++) {
                isNothing = isNothing && portions.at(member) == 0;
                sum += portions.at(member);
            }
            return isNothing || sum == whole;
        }
    }

    /** The average and salvage, reckoned for all interests at once. */
    private static final class Adjustment {
        final Row rests = new Row(MOST_FACTS);
        final Row sacrifices = new Row(MOST_FACTS);
        final Row outlays = new Row(MOST_FACTS);
        final Sharing contribution = new Sharing();
        final Sharing salvage = new Sharing();
        int parties;
        /** Hour and number of each peril in one, so that they sort by hour, then as they were told. */
        private final Row perils = new Row(MOST_FACTS);
        private int perilCount;
        private long sharedAward;

        void reckon(Book book) {
            Fact award = book.last(Topic.AWARD);
            boolean isAwardShared = book.bound(Subject.RULES) == YOUNGEST_RULES;
            gatherInterests(book);
            gatherPerils(book);
            int next = suffer(book, 0, award == null ? 0 : award.time);
            sharedAward = award != null && isAwardShared ? award.amount : 0;
            shareAward();
            suffer(book, next, HOURS);
            if (rests.sum() == 0) {
                sacrifices.wipe();
            }
            gatherOutlays(book);
            if (award != null && !isAwardShared && parties > 0) {
                outlays.add(0, award.amount);
            }
            shareAverage();
        }

        private void gatherInterests(Book book) {
            rests.wipe();
            sacrifices.wipe();
            parties = 0;
            for (int n = 0; n < book.size(); n++) {
                Fact interest = book.counting(Topic.INTEREST, n);
                if (interest != null) {
                    rests.put(parties, interest.amount);
                    parties++;
                }
            }
        }

        private void gatherPerils(Book book) {
            perilCount = 0;
            for (int n = 0; n < book.size(); n++) {
                Fact peril = book.counting(Topic.PERIL, n);
                if (peril != null && peril.of < parties) {
                    perils.insert(perilCount, (long) peril.time * MOST_FACTS + n);
                    perilCount++;
                }
            }
        }

        /** Goes through the perils from a place on that are ahead of an hour; the place of the next one. */
        private int suffer(Book book, int from, int hour) {
            int place = from;
            for (; place < perilCount; place++) {
                Fact peril = book.counting(Topic.PERIL, (int) (perils.at(place) % MOST_FACTS));
                if (peril == null || peril.time >= hour) {
                    break;
                }
                long amount = Math.min(peril.amount, rests.at(peril.of));
                rests.add(peril.of, -amount);
                if (peril.sign == 'g') {
                    sacrifices.add(peril.of, amount);
                }
            }
            return place;
        }

        private void shareAward() {
            salvage.begin();
            for (int party = 0; party < parties; party++) {
                salvage.join(rests.at(party));
            }
            salvage.spread(sharedAward);
        }

        private void gatherOutlays(Book book) {
            outlays.wipe();
            int rules = book.bound(Subject.RULES);
            int hundredths = book.bound(Subject.HUNDREDTHS);
            int end = book.endDay();
            for (int n = 0; n < book.size(); n++) {
                Fact expense = book.counting(Topic.EXPENSE, n);
                if (expense != null && expense.of < parties && isLetIn(expense.sign, rules)) {
                    outlays.add(expense.of, withAdditions(expense, rules, hundredths, end));
                }
            }
        }

        private static boolean isLetIn(int kind, int rules) {
            if (kind == 'w') {
                return rules == 1;
            }
            return kind != 'r' || rules != YOUNGEST_RULES;
        }

        private static long withAdditions(Fact expense, int rules, int hundredths, int end) {
            long amount = expense.amount;
            boolean isCommissioned = rules != YOUNGEST_RULES && (expense.sign == 'p' || expense.sign == 'r');
            long commission = isCommissioned ? amount * 2 / 100 : 0;
            long days = end == NONE ? 0 : Math.max(0, end - expense.time);
            return amount + commission + amount * hundredths * days / INTEREST_DIVISOR;
        }

        private void shareAverage() {
            contribution.begin();
            for (int party = 0; party < parties; party++) {
                contribution.join(rests.at(party) + sacrifices.at(party));
            }
            contribution.spread(whole());
        }

        long whole() {
            return sacrifices.sum() + outlays.sum();
        }

        long balanceOf(int party) {
            return contribution.portion(party) + salvage.portion(party) - sacrifices.at(party) - outlays.at(party);
        }

        long sumAwayFromZero() {
            long sum = 0;
            for (int party = 0; party < parties; party++) {
                sum += Math.abs(balanceOf(party));
            }
            return sum;
        }

        boolean isEven() {
            long sum = 0;
            for (int party = 0; party < parties; party++) {
                sum += balanceOf(party) - salvage.portion(party);
            }
            boolean isBalanced = contribution.allWeights() == 0 || sum == 0;
            return isBalanced && contribution.isNothingOr(whole()) && salvage.isNothingOr(sharedAward);
        }
    }

    /** The fund and what claims are paid of it, rank by rank. */
    private static final class Fund {
        final Row payments = new Row(MOST_FACTS);
        private final Row amounts = new Row(MOST_FACTS);
        private final Sharing rankShares = new Sharing();
        private long coins;

        void reckon(Book book) {
            Fact tons = book.last(Topic.TONS);
            coins = (long) book.bound(Subject.COINS_FOR_A_TON) * (tons == null ? USUAL_TONS : tons.amount);
            payments.wipe();
            amounts.wipe();
            long left = coins;
            for (int rank = 0; rank <= LAST_RANK; rank++) {
                left -= payRank(book, rank, left);
            }
        }

        /** Claims of other ranks join with nothing, so that members keep the claims' numbers. */
        private long payRank(Book book, int rank, long left) {
            int end = book.endDay();
            int claims = 0;
            rankShares.begin();
            for (int n = 0; n < book.size(); n++) {
                Fact claim = book.counting(Topic.CLAIM, n);
                if (claim != null) {
                    boolean isBarred = end != NONE && claim.time - end > DAYS_TO_CLAIM;
                    rankShares.join(claim.of == rank && !isBarred ? claim.amount : 0);
                    amounts.put(claims, claim.amount);
                    claims++;
                }
            }
            long pays = Math.min(left, rankShares.allWeights());
            rankShares.spread(pays);
            for (int claim = 0; claim < claims; claim++) {
                payments.add(claim, rankShares.portion(claim));
            }
            return pays;
        }

        boolean isKept() {
            boolean isKept = payments.sum() <= coins;
            for (int claim = 0; claim < MOST_FACTS; claim++) {
                isKept = isKept && payments.at(claim) <= amounts.at(claim);
            }
            return isKept;
        }
    }
}

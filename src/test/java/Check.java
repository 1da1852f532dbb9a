import java.util.NoSuchElementException;

/** What all tests share: comparing answers, and counting those that are not as due. */
final class Check {
    interface Call {
        Object answer();
    }

    /** Makes an object with a past, each time the same one. */
    interface Past {
        Averagehall made();
    }

    interface CallOn {
        Object answer(Averagehall x);
    }

    static final Class<? extends RuntimeException> IAE = IllegalArgumentException.class;
    static final Class<? extends RuntimeException> ISE = IllegalStateException.class;
    static final Class<? extends RuntimeException> IOOBE = IndexOutOfBoundsException.class;
    static final Class<? extends RuntimeException> NSEE = NoSuchElementException.class;
    static final Class<? extends RuntimeException> AE = ArithmeticException.class;

    static final String SUBJECTS = "adensrkbhvwiyt";

    private static int made;
    private static int wrong;

    private Check() {
    }

    static void eq(String what, Object got, Object want) {
        made++;
        if (!String.valueOf(got).equals(String.valueOf(want))) {
            wrong++;
            System.out.println(what + ": answered " + got + ", due is " + want);
        }
    }

    /** The very class: the machine's own exceptions are often subclasses of those of the document. */
    static void fails(String what, Class<? extends RuntimeException> due, Call call) {
        eq(what, outcome(call), "throws." + due.getSimpleName());
    }

    static String outcome(Call call) {
        try {
            return String.valueOf(call.answer());
        } catch (RuntimeException e) {
            return "throws." + e.getClass().getSimpleName();
        }
    }

    /** A call that throws, on one of two objects of the same past; behind it both answer alike to all that comes. */
    static void failsAndKeeps(String what, Class<? extends RuntimeException> due, Past past, CallOn call) {
        Averagehall called = past.made();
        fails(what, due, () -> call.answer(called));
        eq(what + " changes nothing", future(called), future(past.made()));
    }

    /** What an object answers to all that can be asked of it; at most 120 calls. */
    static String snapshot(Averagehall x) {
        StringBuilder text = new StringBuilder();
        text.append(x.facts()).append(' ').append(x.interests()).append(' ').append(x.claims());
        for (int i = 0; i < SUBJECTS.length(); i++) {
            text.append(' ').append(x.binding(SUBJECTS.charAt(i)));
        }
        text.append(" laytime ").append(outcome(x::laytimeStart)).append(' ').append(outcome(x::used));
        text.append(' ').append(outcome(x::demurrage)).append(' ').append(x.hoursLost());
        text.append(' ').append(outcome(x::hire)).append(" average ").append(x.average());
        for (int i = 0; i < Math.min(6, x.interests()); i++) {
            text.append(" [").append(x.rest(i)).append(' ').append(x.madeGood(i)).append(' ').append(x.share(i, false));
            text.append(' ').append(x.share(i, true)).append(' ').append(x.balance(i)).append(' ').append(x.due(i)).append(']');
        }
        text.append(" fund");
        for (int i = 0; i < Math.min(8, x.claims()); i++) {
            text.append(' ').append(x.paid(i));
        }
        text.append(' ').append(outcome(x::goodShare)).append(' ').append(outcome(x::meanBalance));
        return text.append(' ').append(x.isConsistent()).toString();
    }

    /** The snapshot, and what shows only later: the next numbers, the day looked from, the day of the open paper. */
    private static String future(Averagehall x) {
        StringBuilder text = new StringBuilder(snapshot(x));
        text.append(" next fact ").append(outcome(() -> x.interest(77)));
        text.append(" looked from ").append(x.asOf(0)).append(", facts by days");
        for (int day = 3; day <= 9; day++) {
            x.asOf(day);
            text.append(' ').append(x.facts());
        }
        return text.append(" next paper ").append(outcome(() -> x.paper(1))).toString();
    }

    static Averagehall opened(int day) {
        Averagehall x = new Averagehall();
        x.paper(day);
        return x;
    }

    static void end(String test) {
        System.out.println(test + ": " + made + " answers looked at, " + wrong + " not as due");
        if (wrong > 0 || made == 0) {
            System.exit(1);
        }
    }
}

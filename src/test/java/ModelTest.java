import java.lang.reflect.InvocationTargetException;
import java.lang.reflect.Method;
import java.lang.reflect.Modifier;
import java.util.Arrays;
import java.util.Random;

/** Long runs of calls with chosen seeds; each answer and each exception is compared with the model's. */
public final class ModelTest {
    private static final int RUNS = 400;
    private static final int CALLS = 512;
    private static final String SUBJECTS = "adensrkbhvwiyt";

    private static long answers;
    private static long thrown;

    private final Random dice;
    private final Averagehall hall = new Averagehall();
    private final Model model = new Model();
    private final StringBuilder story = new StringBuilder();
    /** What a run is mostly about, so that deep states are reached: 0 all, 1 laytime and hire, 2 average, 3 fund. */
    private final int theme;
    private final int wrongOf100;
    private final int firstInterests;

    private ModelTest(int seed) {
        dice = new Random(seed);
        theme = seed % 4;
        wrongOf100 = seed % 3 == 0 ? 10 : 1;
        firstInterests = 1 + dice.nextInt(8);
    }

    public static void main(String[] args) {
        int failed = 0;
        for (int seed = 0; seed < RUNS && failed < 3; seed++) {
            if (!new ModelTest(seed).go(seed)) {
                failed++;
            }
        }
        Check.eq("runs that differ", failed, 0);
        System.out.println("ModelTest: " + answers + " calls, " + thrown + " of them throw");
        Check.end("ModelTest");
    }

    private boolean go(int seed) {
        if (dice.nextInt(20) > 0) {
            compare("paper", 10);
        }
        for (int i = 0; i < firstInterests && theme != 1; i++) {
            compare("interest", 1 + number(0, 5000));
        }
        int length = CALLS - 1 - firstInterests;
        for (int call = 0; call < length; call++) {
            if (!step()) {
                System.out.println("seed " + seed + ":" + story);
                return false;
            }
        }
        return true;
    }

    private int number(int least, int most) {
        return least + dice.nextInt(most - least + 1);
    }

    /** A number in the range, often at its edges, now and then out of it. */
    private int in(int least, int most) {
        int way = dice.nextInt(100);
        if (way < wrongOf100) {
            int[] wrong = {least - 1, most + 1, Integer.MIN_VALUE, Integer.MAX_VALUE, -1};
            return wrong[dice.nextInt(wrong.length)];
        }
        return way < 14 ? least : way < 18 ? most : number(least, most);
    }

    private int small(int least, int usual, int most) {
        return dice.nextInt(100) < 85 ? number(least, usual) : in(least, most);
    }

    private char of(String signs) {
        return dice.nextInt(100) < wrongOf100 ? (char) dice.nextInt(300) : signs.charAt(dice.nextInt(signs.length()));
    }

    private int flag() {
        return dice.nextInt(2);
    }

    private boolean step() {
        boolean tells = dice.nextInt(100) < 45;
        int kind = theme == 0 ? 1 + dice.nextInt(3) : dice.nextInt(10) == 0 ? 1 + dice.nextInt(3) : theme;
        if (dice.nextInt(100) < 16) {
            return common();
        }
        switch (kind) {
            case 1: return tells ? tellLaytime() : askLaytime();
            case 2: return tells ? tellAverage() : askAverage();
            default: return tells ? tellFund() : askFund();
        }
    }

    private boolean common() {
        switch (dice.nextInt(12)) {
            case 0: return compare("paper", small(0, 30, 900));
            case 1: return compare("asOf", flag() == 0 ? 999 : small(0, 30, 999));
            case 2: case 3: case 4: case 5: return clause();
            case 6: case 7: case 8: return compare("strike", small(0, 60, 199));
            case 9: return compare("facts");
            default: return compare("binding", of(SUBJECTS));
        }
    }

    private boolean clause() {
        char subject = of(SUBJECTS);
        int value;
        switch (subject) {
            case 'y': value = small(1, 3, 3); break;
            case 's': case 'r': case 'k': case 'b': value = small(0, 1, 1); break;
            case 'a': value = small(0, 300, 9999); break;
            case 'n': value = small(0, 40, 9999); break;
            case 'v': case 'w': value = small(1, 12, 9999); break;
            case 't': value = small(0, 100, 9999); break;
            default: value = in(0, 9999);
        }
        return compare("clause", subject, value, dice.nextInt(4) == 0 ? 1 : 0);
    }

    private boolean tellLaytime() {
        int from = small(0, 600, 4799);
        switch (dice.nextInt(9)) {
            case 0: case 1: return compare("notice", small(0, 400, 4799), flag());
            case 2: case 3: case 4: return compare("stop", of("rkso"), from, from + small(1, 90, 4000));
            case 5: return compare("holiday", small(0, 25, 199));
            case 6: case 7: return compare("moment", of("fdge"), small(0, 900, 4799));
            default: return compare("run", small(0, 15, 199), small(0, 6, 12), small(150, 350, 600));
        }
    }

    private boolean askLaytime() {
        String[] calls = {"laytimeStart", "used", "demurrage", "hoursLost", "hire"};
        return compare(calls[dice.nextInt(calls.length)]);
    }

    private int party() {
        return small(0, firstInterests, 19);
    }

    private int amount() {
        return flag() == 0 ? number(1, 900) : in(1, 100000);
    }

    private boolean tellAverage() {
        switch (dice.nextInt(12)) {
            case 0: return compare("interest", amount());
            case 1: case 2: case 3: return compare("peril", of("lg"), party(), amount(), small(0, 20, 4799));
            case 4: case 5: case 6: return compare("expense", of("pfrw"), party(), amount(), in(0, 199));
            case 7: return compare("substitute", party(), amount(), amount(), in(0, 199));
            case 8: return compare("award", amount(), small(0, 20, 4799));
            case 9: return compare("moment", 'e', in(0, 4799));
            case 10: return compare("clause", 'y', number(1, 3), flag());
            default: return compare("deposit", party(), amount());
        }
    }

    private boolean askAverage() {
        switch (dice.nextInt(11)) {
            case 0: return compare("rest", party());
            case 1: return compare("madeGood", party());
            case 2: return compare("average");
            case 3: case 4: return compare("share", party(), flag());
            case 5: case 6: return compare("balance", party());
            case 7: return compare("due", party());
            case 8: return compare("goodShare");
            case 9: return compare("meanBalance");
            default: return compare(flag() == 0 ? "isConsistent" : "interests");
        }
    }

    private boolean tellFund() {
        switch (dice.nextInt(6)) {
            case 0: return compare("tons", small(1, 200, 9999));
            case 1: return compare("moment", 'e', in(0, 4799));
            default: return compare("claim", in(0, 3), amount(), in(0, 900));
        }
    }

    private boolean askFund() {
        int way = dice.nextInt(8);
        return way == 0 ? compare("claims") : way == 1 ? compare("isConsistent") : compare("paid", small(0, 15, 199));
    }

    private boolean compare(String call, int... numbers) {
        String got = answer(hall, call, numbers);
        String due = answer(model, call, numbers);
        story.append(' ').append(call).append(Arrays.toString(numbers)).append('=').append(got);
        if (!got.equals(due)) {
            story.append(" but the model says ").append(due);
        }
        answers++;
        thrown += due.startsWith("throws.") ? 1 : 0;
        return got.equals(due);
    }

    private static String answer(Object object, String call, int[] numbers) {
        for (Method method : object.getClass().getDeclaredMethods()) {
            if (method.getName().equals(call) && !Modifier.isPrivate(method.getModifiers())) {
                return Check.outcome(() -> invoke(object, method, numbers));
            }
        }
        throw new AssertionError(call);
    }

    private static Object invoke(Object object, Method method, int[] numbers) {
        Class<?>[] types = method.getParameterTypes();
        Object[] arguments = new Object[types.length];
        for (int i = 0; i < types.length; i++) {
            arguments[i] = types[i] == char.class ? (Object) (char) numbers[i]
                    : types[i] == boolean.class ? (Object) (numbers[i] == 1) : (Object) numbers[i];
        }
        try {
            return method.invoke(object, arguments);
        } catch (InvocationTargetException e) {
            throw (RuntimeException) e.getCause();
        } catch (IllegalAccessException e) {
            throw new AssertionError(e);
        }
    }
}

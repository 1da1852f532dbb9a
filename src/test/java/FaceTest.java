import java.lang.reflect.Constructor;
import java.lang.reflect.Field;
import java.lang.reflect.Method;
import java.lang.reflect.Modifier;
import java.util.Arrays;
import java.util.Set;
import java.util.TreeSet;

/** The public face, member for member, and that nothing else can be seen from outside. */
public final class FaceTest {
    private static final String[] FACE = {
        "int paper(int) IllegalArgumentException IllegalStateException",
        "int asOf(int) IllegalArgumentException",
        "int facts()",
        "int clause(char,int,boolean) IllegalArgumentException IllegalStateException",
        "int strike(int) IndexOutOfBoundsException IllegalStateException",
        "int binding(char) IllegalArgumentException",
        "int notice(int,boolean) IllegalArgumentException IllegalStateException",
        "int stop(char,int,int) IllegalArgumentException IllegalStateException",
        "int holiday(int) IllegalArgumentException IllegalStateException",
        "int moment(char,int) IllegalArgumentException IllegalStateException",
        "int run(int,int,int) IllegalArgumentException IllegalStateException",
        "int laytimeStart() NoSuchElementException",
        "int used() NoSuchElementException",
        "int demurrage() NoSuchElementException",
        "int hoursLost()",
        "long hire() NoSuchElementException",
        "int interest(int) IllegalArgumentException IllegalStateException",
        "int interests()",
        "int peril(char,int,int,int) IllegalArgumentException IllegalStateException",
        "int expense(char,int,int,int) IllegalArgumentException IllegalStateException",
        "int substitute(int,int,int,int) IllegalArgumentException IllegalStateException",
        "int award(int,int) IllegalArgumentException IllegalStateException",
        "int rest(int) IndexOutOfBoundsException",
        "int madeGood(int) IndexOutOfBoundsException",
        "long average()",
        "int share(int,boolean) IndexOutOfBoundsException",
        "int balance(int) IndexOutOfBoundsException",
        "int deposit(int,int) IllegalArgumentException IllegalStateException",
        "int due(int) IndexOutOfBoundsException",
        "int tons(int) IllegalArgumentException IllegalStateException",
        "int claim(int,int,int) IllegalArgumentException IllegalStateException",
        "int claims()",
        "int paid(int) IndexOutOfBoundsException",
        "float goodShare() ArithmeticException",
        "double meanBalance() ArithmeticException",
        "boolean isConsistent()",
    };

    public static void main(String[] args) {
        theClass();
        theMethods();
        Check.end("FaceTest");
    }

    private static void theClass() {
        Class<?> type = Averagehall.class;
        Check.eq("modifiers", Modifier.toString(type.getModifiers()), "public final");
        Check.eq("superclass", type.getSuperclass(), Object.class);
        Check.eq("interfaces", type.getInterfaces().length, 0);
        Check.eq("package", type.getPackageName(), "");
        Constructor<?>[] constructors = type.getDeclaredConstructors();
        Check.eq("constructors", constructors.length, 1);
        Check.eq("constructor", constructors[0].toString(), "public Averagehall()");
        for (Field field : type.getDeclaredFields()) {
            Check.eq("private field " + field.getName(), Modifier.isPrivate(field.getModifiers()), true);
        }
        for (Class<?> inside : type.getDeclaredClasses()) {
            int modifiers = inside.getModifiers();
            boolean isHidden = !Modifier.isPublic(modifiers) && !Modifier.isProtected(modifiers);
            Check.eq("hidden, static class " + inside.getName(), isHidden && Modifier.isStatic(modifiers), true);
        }
    }

    private static void theMethods() {
        Set<String> names = new TreeSet<>();
        Set<String> shown = new TreeSet<>();
        Class<?> type = Averagehall.class;
        for (Method method : type.getDeclaredMethods()) {
            if (!Modifier.isPrivate(method.getModifiers())) {
                shown.add(told(method));
                names.add(method.getName());
                Check.eq("public " + method.getName(), Modifier.toString(method.getModifiers()), "public");
            }
        }
        Check.eq("the face", shown, new TreeSet<>(Arrays.asList(FACE)));
        for (Method method : type.getDeclaredMethods()) {
            boolean isTwice = Modifier.isPrivate(method.getModifiers()) && names.contains(method.getName());
            Check.eq("private " + method.getName() + " bears a public name", isTwice, false);
        }
        for (Class<?> inside : type.getDeclaredClasses()) {
            for (Method method : inside.getDeclaredMethods()) {
                Check.eq(inside.getName() + "." + method.getName() + " bears a public name",
                        names.contains(method.getName()), false);
            }
        }
    }

    private static String told(Method method) {
        StringBuilder text = new StringBuilder(method.getReturnType().getName());
        text.append(' ').append(method.getName()).append('(');
        for (int i = 0; i < method.getParameterCount(); i++) {
            text.append(i > 0 ? "," : "").append(method.getParameterTypes()[i].getName());
        }
        text.append(')');
        for (Class<?> exception : method.getExceptionTypes()) {
            text.append(' ').append(exception.getSimpleName());
        }
        return text.toString();
    }
}

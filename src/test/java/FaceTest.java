import java.lang.reflect.Constructor;
import java.lang.reflect.Field;
import java.lang.reflect.Method;
import java.lang.reflect.Modifier;
import java.util.Set;
import java.util.TreeSet;

/** The public face: just the document's constant, constructor and methods, with their exceptions. */
final class FaceTest {
    private static final String[] METHODS = {
        "long dayOf(int,int,int,int) I A S",
        "boolean isLawful(int,int,int,int) I",
        "int part(int,long,int) I S A",
        "long newYear(int,int) I A S",
        "int yearLength(int,int) I A S",
        "int monthAt(int,int,int) I A S N",
        "int monthLength(int,int,int) I A S",
        "long setChange(long) A",
        "long shift(long,long) M S",
        "long later(int,long,int,int) I A S",
        "int age(int,long,long) I S A",
        "int ageMonths(int,long,long) I S A",
        "long remembrance(int,long,long) I S",
        "long near(long,int,int) S A",
        "long nth(int,int,int,int,int) I A S N",
        "long feast(int,int,int) A",
        "long nextFeast(int,int,long) A S",
        "int position(int,long) A S",
        "long again(int) A",
        "long meet(long,int,int,int,int) S A N",
        "int longCount(long,int) S A",
        "long moon(long) M",
        "long drift(int,boolean) I A",
        "int far(int) I F A",
        "int type(long) A S",
        "int wipe()",
        "int signAt(int) I",
        "int fault()",
        "long read() F N S",
        "int write(int,long) I S",
        "int table(int,int,int,int) I A S",
        "int reign(long,int) S A",
        "int forgetReign(long) S N",
        "long reignAt(long,int,int) S I A N",
        "int gather(int,int,int,long,long) I S A",
        "int sift(int,int) A",
        "boolean toggle(long) S",
        "long ofSet(long,int) A N",
        "int undo() N",
        "double meanYear(int,int,int) I A S",
        "float passed(int,long) I S",
        "int errors(long) S"};

    private FaceTest() {
    }

    static void run() {
        Check.group("the face");
        Set<String> due = new TreeSet<>(Set.of(METHODS));
        Set<String> there = new TreeSet<>();
        Set<String> names = new TreeSet<>();
        for (Method method : Manydays.class.getDeclaredMethods()) {
            if (Modifier.isPublic(method.getModifiers())) {
                there.add(text(method));
                names.add(method.getName());
            } else {
                Check.holds(method + " is private", Modifier.isPrivate(method.getModifiers()) || method.isSynthetic());
            }
        }
        Check.is("public methods", due, () -> there);
        Check.holds("the class is public and final",
            Modifier.isPublic(Manydays.class.getModifiers()) && Modifier.isFinal(Manydays.class.getModifiers()));
        fields();
        Constructor<?>[] constructors = Manydays.class.getDeclaredConstructors();
        Check.holds("one public constructor without parameters", constructors.length == 1
            && Modifier.isPublic(constructors[0].getModifiers()) && constructors[0].getParameterCount() == 0);
        for (Class<?> inside : Manydays.class.getDeclaredClasses()) {
            inside(inside, names);
        }
        Check.is("NONE", -1, () -> Manydays.NONE);
    }

    private static void fields() {
        for (Field field : Manydays.class.getDeclaredFields()) {
            int kind = field.getModifiers();
            boolean isNone = field.getName().equals("NONE");
            Check.holds(field + " is as the face says", isNone
                ? Modifier.isPublic(kind) && Modifier.isStatic(kind) && Modifier.isFinal(kind)
                : Modifier.isPrivate(kind));
        }
    }

    private static void inside(Class<?> inside, Set<String> names) {
        Check.holds(inside + " is static and not public",
            Modifier.isStatic(inside.getModifiers()) && !Modifier.isPublic(inside.getModifiers()));
        for (Method method : inside.getDeclaredMethods()) {
            Check.holds(method + " bears no name of the face", !names.contains(method.getName()));
        }
        for (Field field : inside.getDeclaredFields()) {
            Check.holds(field + " is no static state",
                !Modifier.isStatic(field.getModifiers()) || Modifier.isFinal(field.getModifiers()));
        }
    }

    private static String text(Method method) {
        StringBuilder text = new StringBuilder(method.getReturnType().getName());
        text.append(' ').append(method.getName()).append('(');
        String comma = "";
        for (Class<?> parameter : method.getParameterTypes()) {
            text.append(comma).append(parameter.getName());
            comma = ",";
        }
        text.append(')');
        for (Class<?> kind : method.getExceptionTypes()) {
            text.append(' ').append(sign(kind));
        }
        return text.toString();
    }

    private static String sign(Class<?> kind) {
        switch (kind.getSimpleName()) {
            case "IndexOutOfBoundsException": return "I";
            case "IllegalArgumentException": return "A";
            case "IllegalStateException": return "S";
            case "NoSuchElementException": return "N";
            case "ArithmeticException": return "M";
            case "NumberFormatException": return "F";
            default: return kind.getName();
        }
    }
}

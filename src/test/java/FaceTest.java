import java.lang.reflect.Constructor;
import java.lang.reflect.Field;
import java.lang.reflect.Method;
import java.lang.reflect.Modifier;
import java.util.Set;
import java.util.TreeSet;

/** The public face: all of it, and nothing else that can be seen from outside. */
public final class FaceTest {
    private static final String[] FACE = {
        "field public static final int NONE",
        "field public static final int PAY",
        "field public static final int SPLIT",
        "field public static final int ROLL",
        "public NoticeBook()",
        "public int setRate(int, int) throws I A",
        "public boolean setByBands(boolean)",
        "public int setTermRate(int) throws A",
        "public int deposit(int, int) throws I A S",
        "public int depositTerm(int, int, int, int) throws I A S",
        "public int give(int, int) throws I A S",
        "public int withdraw(int) throws I S",
        "public int take(int) throws I S",
        "public int early(int, int) throws I A S",
        "public int instruct(int, int) throws I A S",
        "public int letGo(int) throws I S",
        "public int join(int, int) throws I A S",
        "public int pass(int) throws A S",
        "public int today()",
        "public int lots()",
        "public int principal(int) throws I",
        "public long earned(int) throws I",
        "public long partsOfDay(int) throws I",
        "public int frozen(int) throws I",
        "public int endOf(int) throws I",
        "public int total(int) throws I",
        "public long partsByTotal(int) throws I",
        "public long paid(int) throws I",
        "public long lost(int) throws I",
    };

    public static void main(String[] args) {
        Check check = new Check("FaceTest");
        Set<String> due = new TreeSet<>(Set.of(FACE));
        Set<String> found = new TreeSet<>();
        Set<String> hiddenNames = new TreeSet<>();
        Set<String> faceNames = new TreeSet<>();
        for (Field field : NoticeBook.class.getDeclaredFields()) {
            if (!Modifier.isPrivate(field.getModifiers())) {
                found.add("field " + Modifier.toString(field.getModifiers()) + " "
                        + field.getType() + " " + field.getName());
            }
        }
        for (Constructor<?> made : NoticeBook.class.getDeclaredConstructors()) {
            found.add(Modifier.toString(made.getModifiers()) + " NoticeBook"
                    + types(made.getParameterTypes()) + throwing(made.getExceptionTypes()));
        }
        for (Method method : NoticeBook.class.getDeclaredMethods()) {
            if (Modifier.isPrivate(method.getModifiers())) {
                hiddenNames.add(method.getName());
            } else {
                faceNames.add(method.getName());
                found.add(Modifier.toString(method.getModifiers()) + " " + method.getReturnType()
                        + " " + method.getName() + types(method.getParameterTypes())
                        + throwing(method.getExceptionTypes()));
            }
        }
        if (!due.equals(found)) {
            System.out.println("due   " + due);
            System.out.println("found " + found);
        }
        check.due("the face is as due", true, due.equals(found));
        hiddenNames.retainAll(faceNames);
        check.due("private methods with names of public ones", 0, hiddenNames.size());
        check.due("the class is public and final", Modifier.PUBLIC | Modifier.FINAL,
                NoticeBook.class.getModifiers());
        check.due("NONE", -1, NoticeBook.NONE);
        check.due("PAY", 0, NoticeBook.PAY);
        check.due("SPLIT", 1, NoticeBook.SPLIT);
        check.due("ROLL", 2, NoticeBook.ROLL);
        check.end();
    }

    private static String types(Class<?>[] types) {
        StringBuilder text = new StringBuilder("(");
        for (Class<?> type : types) {
            text.append(text.length() > 1 ? ", " : "").append(type);
        }
        return text.append(")").toString();
    }

    private static String throwing(Class<?>[] types) {
        StringBuilder text = new StringBuilder();
        for (Class<?> type : types) {
            text.append(text.length() == 0 ? " throws" : "").append(" ").append(
                    type == Check.INDEX ? "I" : type == Check.ARGUMENT ? "A" : type == Check.STATE ? "S" : "?");
        }
        return text.toString();
    }
}

import java.lang.reflect.Constructor;
import java.lang.reflect.Field;
import java.lang.reflect.Member;
import java.lang.reflect.Method;
import java.lang.reflect.Modifier;
import java.util.ArrayList;
import java.util.List;
import java.util.TreeSet;

/** The public face is the document's, to the letter, and nothing else can be seen from outside. */
public final class FaceTest {
    private static final String FACE = """
            int NONE
            long NO_SUCH
            RiskBands()
            int feed(int, int, int, int, int)
            int end(int)
            int pool()
            int sample()
            int fault(int)
            int count(int)
            int row(int, int)
            int band(int, int)
            int bandOf(int)
            long rate(int, int)
            long error()
            long joint(int)
            long auc(int)
            long ks(int)
            int hull(int, int)
            int cost(int)
            int cut(int)
            int refer(int, int)
            int two(int)
            int would(int, int)
            int limit(int)
            int accepts(int)
            int capture(int)
            long drift(int)
            long chi()
            long mean(int)
            int median()
            long mixed(int, int)
            long resample(long, int)
            int inversions()
            int between(int, int, int)
            long split(int)
            int splitAt(int, int)
            int month()
            long off(int, int)
            int share(int, int)
            int alarm(int)
            int rises(int)
            int tell()
            int octet(int)
            int open(int)
            int infer(int)
            int decide(int, int)
            int decision(int, int)
            int outcome(int, int)
            int overrides(int)
            int learn()
            int adds(int, int, int)
            int sets(int, int)
            int costs(int, int, int)
            int undo()
            """;

    public static void main(String[] args) {
        Check check = new Check("face");
        Class<?> face = RiskBands.class;
        check.same("final", Modifier.isFinal(face.getModifiers()) ? 1 : 0, 1);
        check.same("NONE", RiskBands.NONE, -1);
        check.same("NO_SUCH", RiskBands.NO_SUCH, Long.MIN_VALUE);
        TreeSet<String> due = new TreeSet<>(List.of(FACE.strip().split("\n")));
        TreeSet<String> got = new TreeSet<>(visibleMembers(face));
        check.text("the face", got.toString(), due.toString());
        checkNamesOfPrivateMethods(check, face);
        for (Class<?> inner : face.getDeclaredClasses()) {
            check.same(inner.getName() + " is static", Modifier.isStatic(inner.getModifiers()) ? 1 : 0, 1);
            check.same(inner.getName() + " is hidden",
                    inner.getModifiers() & (Modifier.PUBLIC | Modifier.PROTECTED), 0);
        }
        check.close();
    }

    private static List<String> visibleMembers(Class<?> face) {
        List<String> members = new ArrayList<>();
        for (Field field : face.getDeclaredFields()) {
            if (isVisible(field)) {
                members.add(field.getType() + " " + field.getName());
            }
        }
        for (Constructor<?> made : face.getDeclaredConstructors()) {
            if (isVisible(made)) {
                members.add("RiskBands" + types(made.getParameterTypes()));
            }
        }
        for (Method method : face.getDeclaredMethods()) {
            if (isVisible(method)) {
                members.add(method.getReturnType() + " " + method.getName() + types(method.getParameterTypes()));
            }
        }
        return members;
    }

    private static boolean isVisible(Member member) {
        return !Modifier.isPrivate(member.getModifiers());
    }

    private static String types(Class<?>[] types) {
        List<String> names = new ArrayList<>();
        for (Class<?> type : types) {
            names.add(type.getName());
        }
        return "(" + String.join(", ", names) + ")";
    }

    private static void checkNamesOfPrivateMethods(Check check, Class<?> face) {
        TreeSet<String> open = new TreeSet<>();
        List<Method> hidden = new ArrayList<>();
        for (Method method : face.getDeclaredMethods()) {
            if (Modifier.isPrivate(method.getModifiers())) {
                hidden.add(method);
            } else {
                open.add(method.getName());
            }
        }
        for (Class<?> inner : face.getDeclaredClasses()) {
            hidden.addAll(List.of(inner.getDeclaredMethods()));
        }
        for (Method method : hidden) {
            check.same(method + " bears a public name", open.contains(method.getName()) ? 1 : 0, 0);
        }
    }
}

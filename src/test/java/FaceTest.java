import java.lang.reflect.Constructor;
import java.lang.reflect.Field;
import java.lang.reflect.Member;
import java.lang.reflect.Method;
import java.lang.reflect.Modifier;
import java.util.Arrays;
import java.util.TreeSet;

/** The public face is the document's and no more. */
public final class FaceTest {
    private static final String[] METHODS = {
        "write(int,long)", "wipe()", "fault()", "lay()", "mark(int,int,int)", "order(int,int,int)",
        "tell(int,int,int,int,int)", "both(int,int,int,int,int,int)", "coin(int,int,int,int,int)",
        "drawn(int,int,int,int)", "chance(int,int,int,int)", "brings(int,int,int)", "cost(int,int,int)",
        "line(int,int,int,int)", "even(int)", "later(int,int)", "hair(int,int,int,int)",
        "golden(int,int,int,int,int)", "year(int)", "writer(int,int)", "now(int)", "having(int,int)",
        "keep()", "back()", "count(int)"};

    public static void main(String[] args) {
        Check check = new Check();
        check.about("face");
        Class<?> face = PursesByLot.class;
        check.due("public", Modifier.isPublic(face.getModifiers()) ? 1 : 0, 1);
        check.due("final", Modifier.isFinal(face.getModifiers()) ? 1 : 0, 1);
        TreeSet<String> methods = new TreeSet<>();
        TreeSet<String> hidden = new TreeSet<>();
        for (Method m : face.getDeclaredMethods()) {
            if (isShown(m)) {
                methods.add(m.getName() + types(m.getParameterTypes()));
                check.due(m + " answers int", m.getReturnType() == int.class ? 1 : 0, 1);
                check.due(m + " is of the object", Modifier.isStatic(m.getModifiers()) ? 1 : 0, 0);
            } else {
                hidden.add(m.getName());
            }
        }
        TreeSet<String> want = new TreeSet<>(Arrays.asList(METHODS));
        check.due("methods " + methods, methods.equals(want) ? 1 : 0, 1);
        for (String m : METHODS) {
            String name = m.substring(0, m.indexOf('('));
            check.due("a private " + name, hidden.contains(name) ? 1 : 0, 0);
        }
        constants(check, face);
        Constructor<?>[] makers = face.getDeclaredConstructors();
        check.due("constructors", makers.length, 1);
        check.due("its numbers", makers[0].getParameterCount(), 0);
        check.due("it is public", Modifier.isPublic(makers[0].getModifiers()) ? 1 : 0, 1);
        check.end("FaceTest");
    }

    private static void constants(Check check, Class<?> face) {
        TreeSet<String> shown = new TreeSet<>();
        for (Field f : face.getDeclaredFields()) {
            if (isShown(f)) {
                shown.add(f.getName());
            }
        }
        TreeSet<String> want = new TreeSet<>(Arrays.asList("BAD", "NO", "FULL", "NONE"));
        check.due("constants " + shown, shown.equals(want) ? 1 : 0, 1);
        check.due("BAD", PursesByLot.BAD, -1);
        check.due("NO", PursesByLot.NO, -2);
        check.due("FULL", PursesByLot.FULL, -3);
        check.due("NONE", PursesByLot.NONE, -4);
    }

    private static boolean isShown(Member m) {
        return !Modifier.isPrivate(m.getModifiers()) && !m.isSynthetic();
    }

    private static String types(Class<?>[] types) {
        StringBuilder s = new StringBuilder("(");
        for (int i = 0; i < types.length; i++) {
            s.append(i == 0 ? "" : ",").append(types[i].getName());
        }
        return s.append(")").toString();
    }
}

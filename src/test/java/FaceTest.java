import java.lang.reflect.Constructor;
import java.lang.reflect.Field;
import java.lang.reflect.Method;
import java.lang.reflect.Modifier;
import java.util.Arrays;
import java.util.TreeSet;

/** The public face is the document's, and nothing besides. */
public final class FaceTest {
    private static final String[] METHODS = {
        "int type(int)", "int clear()", "int court()", "int person(int,int)", "int clashes(int)",
        "int pillow(int,int)", "int heard(int,int)", "int now(int)", "int lays(int,int)",
        "int night(int)", "int slips(int)", "int mixes(int,int)", "int examines(int)", "int undo()",
        "int whose(int,int)", "int so(int)", "int tally(int,int)", "int fit(int)", "int looks()",
        "int next()", "int inNights(int,int,int)", "int notes(int,int,int)", "int forget()",
        "int which(int)", "long odds(int,int,int,int)", "int rate(int,int)", "int keep(int)",
        "int back(int)", "int count(int)", "long trace()"};

    public static void main(String[] args) {
        Due due = new Due("face");
        due.is("public final class", PillowCourt.class.getModifiers(), Modifier.PUBLIC | Modifier.FINAL);
        checkMethods(due);
        checkFields(due);
        Constructor<?>[] made = PillowCourt.class.getDeclaredConstructors();
        due.is("constructors", made.length, 1);
        due.is("public constructor", made[0].getModifiers(), Modifier.PUBLIC);
        for (Class<?> inside : PillowCourt.class.getDeclaredClasses()) {
            due.is(inside.getName() + " is static", inside.getModifiers() & Modifier.STATIC, Modifier.STATIC);
        }
        checkConstants(due);
        due.end();
    }

    private static void checkMethods(Due due) {
        TreeSet<String> seen = new TreeSet<>();
        TreeSet<String> names = new TreeSet<>();
        for (Method m : PillowCourt.class.getDeclaredMethods()) {
            if (!Modifier.isPrivate(m.getModifiers())) {
                seen.add(written(m));
                names.add(m.getName());
                due.is(m.getName() + " is public", m.getModifiers(), Modifier.PUBLIC);
            }
        }
        for (Method m : PillowCourt.class.getDeclaredMethods()) {
            boolean isHidden = Modifier.isPrivate(m.getModifiers());
            due.is("private " + m.getName() + " bears a public name", isHidden && names.contains(m.getName()) ? 1 : 0, 0);
        }
        TreeSet<String> wanted = new TreeSet<>(Arrays.asList(METHODS));
        due.is("methods " + seen, seen.equals(wanted) ? 1 : 0, 1);
    }

    private static String written(Method m) {
        StringBuilder s = new StringBuilder();
        for (Class<?> c : m.getParameterTypes()) {
            s.append(s.length() == 0 ? "" : ",").append(c.getName());
        }
        return m.getReturnType().getName() + " " + m.getName() + "(" + s + ")";
    }

    private static void checkFields(Due due) {
        TreeSet<String> seen = new TreeSet<>();
        for (Field f : PillowCourt.class.getDeclaredFields()) {
            if (!Modifier.isPrivate(f.getModifiers())) {
                seen.add(f.getName());
                due.is(f.getName() + " is a public constant", f.getModifiers(),
                        Modifier.PUBLIC | Modifier.STATIC | Modifier.FINAL);
                due.is(f.getName() + " is an int", f.getType() == int.class ? 1 : 0, 1);
            }
        }
        TreeSet<String> wanted = new TreeSet<>(Arrays.asList("BAD", "STATE", "FULL", "NONE", "NO"));
        due.is("constants " + seen, seen.equals(wanted) ? 1 : 0, 1);
    }

    private static void checkConstants(Due due) {
        due.is("BAD", PillowCourt.BAD, -1);
        due.is("STATE", PillowCourt.STATE, -2);
        due.is("FULL", PillowCourt.FULL, -3);
        due.is("NONE", PillowCourt.NONE, -9);
        due.is("NO", PillowCourt.NO, -1000000);
    }
}

import java.lang.reflect.Constructor;
import java.lang.reflect.Field;
import java.lang.reflect.Method;
import java.lang.reflect.Modifier;
import java.util.Set;
import java.util.TreeSet;

/** The class shows what the document's face shows, and nothing else. */
public final class FaceTest {
    private static final String[] METHODS = {
        "int type(int)", "int clear()", "int house()", "int use(int,int)", "int thing(int,int)",
        "int person(int,int)", "int door(int,int)", "int now(int)", "int lays(int,int)",
        "int takes(int)", "int rescales(int,int,int)", "int undo()", "int housed(int)",
        "int laying(int,int)", "int tries(int,int)", "int forget()", "int mayBe(int,int)",
        "int next(int,int)", "int bestScale(int)", "int oneMore(int,int)", "int carried(int)",
        "long mean(int)", "int turnsOfAll()", "int share(int,int)", "int odds(int,int,int)",
        "int rate(int,int)", "int keep(int)", "int back(int)", "int count(int)", "long trace()",
    };
    private static final String[] CONSTANTS = {"BAD", "STATE", "FULL", "NONE", "NO"};

    private FaceTest() {
    }

    private static String shape(Method m) {
        StringBuilder shape = new StringBuilder(m.getReturnType().getName());
        shape.append(' ').append(m.getName()).append('(');
        Class<?>[] takes = m.getParameterTypes();
        for (int i = 0; i < takes.length; i++) {
            shape.append(i == 0 ? "" : ",").append(takes[i].getName());
        }
        return shape.append(')').toString();
    }

    public static void main(String[] args) {
        Check check = new Check("FaceTest");
        Class<TwoScales> face = TwoScales.class;
        check.holds("the class is public and final",
                Modifier.isPublic(face.getModifiers()) && Modifier.isFinal(face.getModifiers()));

        Set<String> names = new TreeSet<>();
        Set<String> shown = new TreeSet<>();
        for (Method m : face.getDeclaredMethods()) {
            if (!Modifier.isPrivate(m.getModifiers())) {
                shown.add(shape(m));
                names.add(m.getName());
                check.holds(m.getName() + " is public", Modifier.isPublic(m.getModifiers()));
                check.holds(m.getName() + " is not static", !Modifier.isStatic(m.getModifiers()));
            }
        }
        check.holds("methods " + shown, shown.equals(new TreeSet<>(Set.of(METHODS))));
        for (Method m : face.getDeclaredMethods()) {
            if (Modifier.isPrivate(m.getModifiers())) {
                check.holds("no public name for a private " + m.getName(), !names.contains(m.getName()));
            }
        }

        Set<String> constants = new TreeSet<>();
        for (Field f : face.getDeclaredFields()) {
            if (!Modifier.isPrivate(f.getModifiers())) {
                constants.add(f.getName());
                check.holds(f.getName() + " is public static final int", f.getType() == int.class
                        && f.getModifiers() == (Modifier.PUBLIC | Modifier.STATIC | Modifier.FINAL));
            }
        }
        check.holds("constants " + constants, constants.equals(new TreeSet<>(Set.of(CONSTANTS))));

        Constructor<?>[] made = face.getDeclaredConstructors();
        check.holds("one public constructor without arguments", made.length == 1
                && made[0].getParameterCount() == 0 && Modifier.isPublic(made[0].getModifiers()));

        check.due("BAD", TwoScales.BAD, -1);
        check.due("STATE", TwoScales.STATE, -2);
        check.due("FULL", TwoScales.FULL, -3);
        check.due("NONE", TwoScales.NONE, -9);
        check.due("NO", TwoScales.NO, -1000000);
        check.end();
    }
}

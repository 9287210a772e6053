import java.lang.reflect.Constructor;
import java.lang.reflect.Field;
import java.lang.reflect.Method;
import java.lang.reflect.Modifier;
import java.util.HashSet;
import java.util.List;
import java.util.Set;
import java.util.TreeSet;

/** The public face as the document writes it, and promise 1: a new object. */
public final class FaceTest {
    private static final List<String> FACE = List.of(
        "int feed 1", "int end 1", "int text 0", "int fault 0", "int rule 1", "int wheel 2", "int alter 3", "int add 2",
        "int cut 1", "int turn 1", "int clear 0", "int pushes 1", "int runs 2", "int ahead 2", "int when 1",
        "int shows 2", "int again 0", "int mend 2", "int swap 2", "int kind 3", "int begin 3", "int file 3",
        "long luck 5", "long mean 3", "int see 2", "int forget 1", "int kinds 1", "int broken 1", "int ask 2",
        "int drift 3", "int keep 1", "int back 1", "int sheet 3", "int lay 3", "int read 4", "int torn 0",
        "int count 1");

    private FaceTest() {
    }

    public static void main(String[] args) {
        Due due = new Due("FaceTest");
        constants(due);
        methods(due);
        hidden(due);
        newObject(due);
        due.close();
    }

    private static void constants(Due due) {
        due.is("BAD", WheelCount.BAD, -1);
        due.is("STATE", WheelCount.STATE, -2);
        due.is("FULL", WheelCount.FULL, -3);
        due.is("NONE", WheelCount.NONE, -4);
        due.is("public fields", WheelCount.class.getFields().length, 4);
    }

    private static void methods(Due due) {
        Set<String> got = new TreeSet<>();
        for (Method m : WheelCount.class.getDeclaredMethods()) {
            if (Modifier.isPrivate(m.getModifiers())) {
                continue;
            }
            for (Class<?> type : m.getParameterTypes()) {
                due.holds(m + " takes ints", type == int.class);
            }
            due.holds(m + " is public, not static", m.getModifiers() == Modifier.PUBLIC);
            got.add(m.getReturnType() + " " + m.getName() + " " + m.getParameterCount());
        }
        due.holds("the methods are " + got, got.equals(new TreeSet<>(FACE)));
        Constructor<?>[] made = WheelCount.class.getDeclaredConstructors();
        due.is("constructors", made.length, 1);
        due.is("its parameters", made[0].getParameterCount(), 0);
        due.holds("it is public", Modifier.isPublic(made[0].getModifiers()));
        due.is("the class", WheelCount.class.getModifiers(), Modifier.PUBLIC | Modifier.FINAL);
    }

    private static void hidden(Due due) {
        Set<String> names = new HashSet<>();
        FACE.forEach(line -> names.add(line.split(" ")[1]));
        for (Class<?> inside : WheelCount.class.getDeclaredClasses()) {
            due.holds(inside + " is static", Modifier.isStatic(inside.getModifiers()));
            due.holds(inside + " is not public",
                !Modifier.isPublic(inside.getModifiers()) && !Modifier.isProtected(inside.getModifiers()));
            for (Method m : inside.getDeclaredMethods()) {
                due.holds(m + " has no public method's name", !names.contains(m.getName()));
            }
        }
        for (Method m : WheelCount.class.getDeclaredMethods()) {
            due.holds(m + " has no public method's name",
                !Modifier.isPrivate(m.getModifiers()) || !names.contains(m.getName()));
        }
        for (Field f : WheelCount.class.getDeclaredFields()) {
            int seen = f.getModifiers();
            due.holds(f + " is private or a public constant",
                Modifier.isPrivate(seen) || seen == (Modifier.PUBLIC | Modifier.STATIC | Modifier.FINAL));
            due.holds(f + " is final if it is static", !Modifier.isStatic(seen) || Modifier.isFinal(seen));
        }
    }

    private static void newObject(Due due) {
        WheelCount x = new WheelCount();
        int[] rules = {0, 0, 0, 1, 0, 0};
        int[] counts = {0, 0, 0, WheelCount.NONE, 0, 0};
        for (int what = 0; what < 6; what++) {
            due.is("rule(" + what + ")", x.rule(what), rules[what]);
            due.is("count(" + what + ")", x.count(what), counts[what]);
        }
        due.is("wheel(0, 0)", x.wheel(0, 0), WheelCount.BAD);
        due.is("fault()", x.fault(), 0);
        due.is("torn()", x.torn(), 0);
        for (int k = 0; k < 4; k++) {
            due.is("lay: nothing", x.lay(k, 0, 0), -11);
        }
        due.is("back(0)", x.back(0), WheelCount.STATE);
        due.is("back(1)", x.back(1), WheelCount.STATE);
        new WheelCount().add(0, 2);
        due.is("objects are apart", x.rule(0), 0);
    }
}

import java.lang.reflect.Constructor;
import java.lang.reflect.Field;
import java.lang.reflect.Method;
import java.lang.reflect.Modifier;
import java.util.Arrays;
import java.util.TreeSet;

/** The public face, and promise 1. */
public final class FaceTest {
    private static final String[] FACE = {
        "int feed(long)", "int end(int)", "int text()", "int fault()", "int rule(int)", "int stretch(int,int)",
        "int bearer(int,int)", "int start(int)", "int noise(int,int)", "int cold(int,int)", "int step(int,int)",
        "int warm(int,int)", "int put(int,int)", "int harm(int,int,int)", "long wakes(int)", "long awake(int,int)",
        "long depth(int,int,int)", "long best(int)", "int next(int,int,int)", "long without(int,int)",
        "long quiet(int,int)", "long drop(int)", "long swap(int)", "int carry(int,int)", "int learn(int,int,int,int)",
        "int forget(int)", "int steps(int,int)", "int mark(int,int)", "int wipe(int)", "int paths()", "int eye(int)",
        "int sure(int)", "int keep(int)", "int back(int)", "int sheet(int,int,int)", "int lay(int,int,int)",
        "int read(int,int,int,int)", "int torn()", "int count(int)"
    };

    public static void main(String[] args) {
        members();
        nestedClasses();
        aNewObject();
        Check.finish();
    }

    private static void members() {
        TreeSet<String> seen = new TreeSet<>();
        for (Method method : AsleepPass.class.getDeclaredMethods()) {
            if (!Modifier.isPrivate(method.getModifiers())) {
                Check.dueTrue(method + " is public", Modifier.isPublic(method.getModifiers()));
                StringBuilder line = new StringBuilder(method.getReturnType().getName());
                line.append(' ').append(method.getName()).append('(');
                for (Class<?> type : method.getParameterTypes()) {
                    line.append(line.charAt(line.length() - 1) == '(' ? "" : ",").append(type.getName());
                }
                seen.add(line.append(')').toString());
            }
        }
        TreeSet<String> wanted = new TreeSet<>(Arrays.asList(FACE));
        Check.dueTrue("the methods are " + wanted + ", not " + seen, wanted.equals(seen));
        for (Field field : AsleepPass.class.getDeclaredFields()) {
            boolean constant = Arrays.asList("BAD", "STATE", "FULL", "NONE").contains(field.getName());
            Check.dueTrue(field + " is as wanted", constant == Modifier.isPublic(field.getModifiers())
                && constant != Modifier.isPrivate(field.getModifiers()));
            Check.dueTrue(field + " is final, if static",
                !Modifier.isStatic(field.getModifiers()) || Modifier.isFinal(field.getModifiers()));
        }
        Constructor<?>[] constructors = AsleepPass.class.getDeclaredConstructors();
        Check.due("constructors", constructors.length, 1);
        Check.due("its parameters", constructors[0].getParameterCount(), 0);
        Check.dueTrue("it is public", Modifier.isPublic(constructors[0].getModifiers()));
        Check.dueTrue("the class is public and final", Modifier.isPublic(AsleepPass.class.getModifiers())
            && Modifier.isFinal(AsleepPass.class.getModifiers()));
        Check.due("BAD", AsleepPass.BAD, -1);
        Check.due("STATE", AsleepPass.STATE, -2);
        Check.due("FULL", AsleepPass.FULL, -3);
        Check.due("NONE", AsleepPass.NONE, -4);
    }

    private static void nestedClasses() {
        TreeSet<String> face = new TreeSet<>();
        for (String line : FACE) {
            face.add(line.substring(line.indexOf(' ') + 1, line.indexOf('(')));
        }
        Check.dueTrue("some twelve classes at most", AsleepPass.class.getDeclaredClasses().length <= 12);
        for (Class<?> inside : AsleepPass.class.getDeclaredClasses()) {
            Check.dueTrue(inside + " is static, not public", Modifier.isStatic(inside.getModifiers())
                && !Modifier.isPublic(inside.getModifiers()) && !Modifier.isProtected(inside.getModifiers()));
            for (Method method : inside.getDeclaredMethods()) {
                Check.dueTrue(method + " has a name of its own", !face.contains(method.getName()));
                Check.dueTrue(method + " has at most seven parameters", method.getParameterCount() <= 7);
            }
        }
    }

    private static void aNewObject() {
        AsleepPass x = new AsleepPass();
        Check.due("rule(0)", x.rule(0), 0);
        Check.due("rule(1)", x.rule(1), 0);
        Check.due("rule(2)", x.rule(2), 5);
        Check.due("fault()", x.fault(), 0);
        Check.due("torn()", x.torn(), 0);
        Check.due("stretch(0, 0)", x.stretch(0, 0), AsleepPass.BAD);
        Check.due("bearer(0, 0)", x.bearer(0, 0), AsleepPass.BAD);
        for (int what = 0; what < 6; what++) {
            Check.due("count(" + what + ")", x.count(what), what == 4 ? AsleepPass.NONE : 0);
        }
        for (int k = 0; k < 4; k++) {
            Check.due("lay(" + k + ", 0, 0)", x.lay(k, 0, 0), -11);
        }
        Check.due("back(0)", x.back(0), AsleepPass.STATE);
        Check.due("back(1)", x.back(1), AsleepPass.STATE);
        Check.due("harm(0, NONE, 0)", x.harm(0, AsleepPass.NONE, 0), AsleepPass.BAD);
        Check.due("text() of nothing", x.text(), 0);
    }
}

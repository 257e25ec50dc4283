import java.lang.reflect.Constructor;
import java.lang.reflect.Field;
import java.lang.reflect.Method;
import java.lang.reflect.Modifier;
import java.util.Arrays;
import java.util.TreeSet;

/** The public face is the document's, and nothing besides. */
public final class FaceTest {
    private static final String[] FACE = {
        "int program(int,long,int)", "int task(int,int,int)", "int share(int,int)",
        "boolean deadline(int,int,int)", "int processors(int)", "boolean lock(int)", "int ring(int)",
        "int run(int)", "int chosen(int)", "int about(int,int)", "long virtual(int)", "int small(int,int)",
        "long standing(int,int)", "int holder(int)", "int ringed(int)", "int row(int,int)",
        "boolean forge(int,int,int)", "int check()", "int checkedTo()", "long bound(int)", "int trace(int)",
        "int count(int)", "long image()", "boolean load()", "long digest()", "int status()",
    };

    public static void main(String[] args) {
        Due due = new Due("FaceTest");
        TreeSet<String> names = new TreeSet<>();
        TreeSet<String> publicNames = new TreeSet<>();
        TreeSet<String> found = new TreeSet<>();
        for (Method m : FairWheel.class.getDeclaredMethods()) {
            if (Modifier.isPublic(m.getModifiers())) {
                found.add(told(m));
                publicNames.add(m.getName());
            } else {
                due.is("private " + m, true, Modifier.isPrivate(m.getModifiers()));
                names.add(m.getName());
            }
        }
        TreeSet<String> face = new TreeSet<>(Arrays.asList(FACE));
        due.is("the face is the document's, not " + found, true, found.equals(face));
        for (Class<?> c : FairWheel.class.getDeclaredClasses()) {
            due.is("static " + c, true, Modifier.isStatic(c.getModifiers()));
            for (Method m : c.getDeclaredMethods()) {
                names.add(m.getName());
            }
        }
        names.retainAll(publicNames);
        due.is("no other method bears a public name: " + names, 0, names.size());
        for (Field f : FairWheel.class.getDeclaredFields()) {
            due.is("private " + f, true, Modifier.isPrivate(f.getModifiers()));
            due.is("final if static " + f, true,
                    !Modifier.isStatic(f.getModifiers()) || Modifier.isFinal(f.getModifiers()));
        }
        Constructor<?>[] made = FairWheel.class.getDeclaredConstructors();
        due.is("one constructor", 1, made.length);
        due.is("public constructor", true, Modifier.isPublic(made[0].getModifiers()));
        due.is("final class", true, Modifier.isFinal(FairWheel.class.getModifiers()));
        due.end();
    }

    private static String told(Method m) {
        StringBuilder s = new StringBuilder(m.getReturnType().getName());
        s.append(' ').append(m.getName()).append('(');
        String comma = "";
        for (Class<?> c : m.getParameterTypes()) {
            s.append(comma).append(c.getName());
            comma = ",";
        }
        return s.append(')').toString();
    }
}

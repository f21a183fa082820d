import java.lang.reflect.Constructor;
import java.lang.reflect.Field;
import java.lang.reflect.Method;
import java.lang.reflect.Modifier;
import java.util.ArrayList;
import java.util.Arrays;
import java.util.List;
import java.util.Random;
import java.util.TreeSet;

/** The public face is the document's, and no call throws, whatever its arguments. */
public final class FaceTest {
    private static final String[] FACE = {
        "int jar(int)", "int mood(int,int)", "int bound(int,int)", "int vow(int,int)", "int type(int)",
        "int clear()", "int read()", "int say(int)", "int open()", "int undo()", "int now(int)",
        "int moves(int,int)", "int words(int,int)", "int fewest(int)", "int delay(int,int)",
        "int strikes(int)", "int since(int)", "int cast(int)", "int reward(int)",
        "int note(int,int,int,int)", "int forget()", "int is()", "int next()", "int lie(int)",
        "int odds(int,int)", "int jars(int,int)", "long part(int)", "int image(int)", "int from(int)",
        "int status(int)", "int count(int)", "long digest()",
    };
    private static final int[] ARGUMENTS = {
        Integer.MIN_VALUE, Integer.MIN_VALUE + 1, -100, -21, -2, -1, 0, 1, 2, 3, 4, 5, 6, 7, 8, 9, 10, 11, 12,
        13, 20, 40, 59, 97, 98, 99, 100, 106, 114, 127, 128, 2222, 123456, 7777777, 666666666, 1111111111,
        999999, 1000000, Integer.MAX_VALUE - 1, Integer.MAX_VALUE,
    };
    private static int wrong = 0;

    public static void main(String[] args) throws Exception {
        methodsAreTheDocuments();
        constantsAreTheDocuments();
        classIsAsTold();
        noCallThrows();
        System.out.println(wrong == 0 ? "the face is as due" : wrong + " faults of the face");
        if (wrong != 0) {
            System.exit(1);
        }
    }

    private static void check(boolean holds, String what) {
        if (!holds) {
            wrong++;
            System.out.println(what);
        }
    }

    private static void methodsAreTheDocuments() {
        TreeSet<String> seen = new TreeSet<>();
        TreeSet<String> publicNames = new TreeSet<>();
        for (Method m : JarSpirit.class.getDeclaredMethods()) {
            if (Modifier.isPrivate(m.getModifiers())) {
                continue;
            }
            check(m.getModifiers() == Modifier.PUBLIC, "not plainly public: " + m);
            publicNames.add(m.getName());
            StringBuilder text = new StringBuilder(m.getReturnType() + " " + m.getName() + "(");
            for (int i = 0; i < m.getParameterCount(); i++) {
                text.append(i == 0 ? "" : ",").append(m.getParameterTypes()[i]);
            }
            seen.add(text.append(")").toString());
        }
        check(seen.equals(new TreeSet<>(Arrays.asList(FACE))), "methods are " + seen);
        List<Class<?>> classes = new ArrayList<>(Arrays.asList(JarSpirit.class.getDeclaredClasses()));
        classes.add(JarSpirit.class);
        for (Class<?> c : classes) {
            for (Method m : c.getDeclaredMethods()) {
                boolean hidden = !Modifier.isPublic(m.getModifiers());
                check(!(hidden && publicNames.contains(m.getName())), "bears a public name: " + m);
            }
        }
    }

    private static void constantsAreTheDocuments() throws Exception {
        String[] names = {"NONE", "BAD", "NO", "FULL"};
        for (int i = 0; i < names.length; i++) {
            Field field = JarSpirit.class.getDeclaredField(names[i]);
            check(field.getModifiers() == (Modifier.PUBLIC | Modifier.STATIC | Modifier.FINAL), names[i]);
            check(field.getInt(null) == -1 - i, names[i] + " is " + field.getInt(null));
        }
        int visible = 0;
        for (Field field : JarSpirit.class.getDeclaredFields()) {
            visible += Modifier.isPrivate(field.getModifiers()) ? 0 : 1;
            check(!Modifier.isStatic(field.getModifiers()) || Modifier.isFinal(field.getModifiers()),
                "static but not final: " + field);
        }
        check(visible == names.length, visible + " fields can be seen");
    }

    private static void classIsAsTold() {
        check(JarSpirit.class.getModifiers() == (Modifier.PUBLIC | Modifier.FINAL), "not public final");
        Constructor<?>[] all = JarSpirit.class.getDeclaredConstructors();
        check(all.length == 1 && all[0].getParameterCount() == 0 && Modifier.isPublic(all[0].getModifiers()),
            "not the one constructor");
        for (Class<?> c : JarSpirit.class.getDeclaredClasses()) {
            check(Modifier.isStatic(c.getModifiers()) && !Modifier.isPublic(c.getModifiers()), c + " is not hidden");
        }
    }

    private static void noCallThrows() {
        Random random = new Random(1);
        List<Method> calls = new ArrayList<>();
        for (Method m : JarSpirit.class.getDeclaredMethods()) {
            if (Modifier.isPublic(m.getModifiers())) {
                calls.add(m);
            }
        }
        calls.sort((a, b) -> a.getName().compareTo(b.getName()));
        for (int run = 0; run < 300; run++) {
            JarSpirit x = new JarSpirit();
            for (int call = 0; call < 512; call++) {
                Method m = calls.get(random.nextInt(calls.size()));
                Object[] given = new Object[m.getParameterCount()];
                for (int i = 0; i < given.length; i++) {
                    given[i] = ARGUMENTS[random.nextInt(ARGUMENTS.length)];
                }
                try {
                    m.invoke(x, given);
                } catch (Exception thrown) {
                    check(false, m + " with " + Arrays.toString(given) + " threw " + thrown.getCause());
                }
            }
        }
    }
}

import java.lang.reflect.Constructor;
import java.lang.reflect.Field;
import java.lang.reflect.Method;
import java.lang.reflect.Modifier;
import java.util.Arrays;
import java.util.List;

/** The public face: the document's constants, constructor and methods, and no other member that can be seen. */
public final class FaceTest {
    private static final String[] METHODS = {"shop 3", "rate 2", "lock 2", "has 2", "hand 3", "is 2", "be 3", "bar 3", "may 2",
        "put 2", "filling 1", "fill 0", "never 0", "thing 4", "told 2", "as 2", "out 2", "hang 1", "bell 2", "who 1", "late 1",
        "foretold 1", "feed 3", "trim 1", "text 1", "of 2", "why 1", "rules 4", "pay 1", "takes 2", "earn 1", "lose 2",
        "appeal 1", "event 2", "end 2", "run 1", "seed 1", "search 1", "sheet 3", "mark 3", "grow 3", "copy 5", "odd 1",
        "tell 1", "check 1", "keep 0", "back 0", "count 1"};
    private static final String[] CONSTANTS = {"BAD -1000000001", "NO -1000000002", "FULL -1000000003", "NONE -1000000005",
        "NOTHING -1000000011", "KIND -1000000012", "INDEX -1000000013", "SIZE -1000000014"};

    public static void main(String[] args) throws Exception {
        Class<?> face = PrisonShops.class;
        Due.isTrue("public and final", Modifier.isPublic(face.getModifiers()) && Modifier.isFinal(face.getModifiers()));
        constructor(face);
        methods(face);
        constants(face);
        inside(face);
        Due.end();
    }

    private static void constructor(Class<?> face) {
        Constructor<?>[] all = face.getDeclaredConstructors();
        Due.is("constructors", all.length, 1);
        Due.isTrue("the public one without arguments",
            all[0].getParameterCount() == 0 && Modifier.isPublic(all[0].getModifiers()));
    }

    private static void methods(Class<?> face) {
        List<String> due = Arrays.asList(METHODS);
        int found = 0;
        for (Method m : face.getDeclaredMethods()) {
            String shape = m.getName() + " " + m.getParameterCount();
            if (Modifier.isPublic(m.getModifiers())) {
                found++;
                Due.isTrue("public " + shape, due.contains(shape) && !Modifier.isStatic(m.getModifiers()));
                Due.isTrue("int of ints: " + shape, m.getReturnType() == int.class
                    && Arrays.stream(m.getParameterTypes()).allMatch(t -> t == int.class));
            } else {
                Due.isTrue("private " + shape, Modifier.isPrivate(m.getModifiers()) && isFreeName(m.getName()));
            }
        }
        Due.is("public methods", found, METHODS.length);
    }

    private static boolean isFreeName(String name) {
        return Arrays.stream(METHODS).noneMatch(m -> m.startsWith(name + " "));
    }

    private static void constants(Class<?> face) throws Exception {
        List<String> due = Arrays.asList(CONSTANTS);
        int found = 0;
        for (Field f : face.getDeclaredFields()) {
            int m = f.getModifiers();
            if (Modifier.isPublic(m)) {
                found++;
                Due.isTrue("public " + f.getName(), Modifier.isStatic(m) && Modifier.isFinal(m) && f.getType() == int.class
                    && due.contains(f.getName() + " " + f.getInt(null)));
            } else {
                Due.isTrue("private " + f.getName(), Modifier.isPrivate(m));
            }
        }
        Due.is("public constants", found, CONSTANTS.length);
    }

    private static void inside(Class<?> face) {
        Due.isTrue("some twelve classes", face.getDeclaredClasses().length <= 12);
        for (Class<?> c : face.getDeclaredClasses()) {
            int m = c.getModifiers();
            Due.isTrue(c.getName(), Modifier.isStatic(m) && !Modifier.isPublic(m) && !Modifier.isProtected(m));
            for (Method method : c.getDeclaredMethods()) {
                Due.isTrue(c.getName() + "." + method.getName() + " has a name of its own", isFreeName(method.getName()));
            }
            for (Field f : c.getDeclaredFields()) {
                Due.isTrue(c.getName() + "." + f.getName() + " is no state of the class",
                    !Modifier.isStatic(f.getModifiers()) || Modifier.isFinal(f.getModifiers()));
            }
        }
    }
}

import java.lang.reflect.Array;
import java.lang.reflect.Constructor;
import java.lang.reflect.Field;
import java.lang.reflect.Method;
import java.lang.reflect.Modifier;
import java.util.ArrayDeque;
import java.util.Arrays;
import java.util.Deque;
import java.util.IdentityHashMap;
import java.util.Map;
import java.util.Set;
import java.util.TreeSet;

/** The public face of the document, and the rules of LANGUAGE.md that reflection can see. */
public final class AlgebraTreeFaceTest {
    private static final Set<String> FACE = Set.of(
            "int triple(int,int,int,int)", "int leaf(int,int)", "int apply(int,int,int)",
            "int pattern(int,int,int)", "int both(int,int,int)", "int left(int,int,int)",
            "int filter(int,int)", "int extend(int,int,int)", "int project(int,int)",
            "int distinct(int)", "int slice(int,int,int)", "int order(int,int,boolean)",
            "int group(int,int,int,int,int)", "int graph(int,int)", "int graphs(int,int)",
            "int run(int)", "int value(int,int)", "int look(int,int)", "int many(int)",
            "boolean same(int,int)");

    private static int wrong = 0;

    public static void main(String[] args) {
        Class<?> face = AlgebraTree.class;
        due("public and final", Modifier.isPublic(face.getModifiers()) && Modifier.isFinal(face.getModifiers()));
        Set<String> names = methods(face);
        constructors(face);
        fields(face, Set.of("NONE", "ERROR"));
        due("at most twelve classes", face.getDeclaredClasses().length < 12);
        for (Class<?> inside : face.getDeclaredClasses()) {
            due(inside + " is static and hidden",
                    Modifier.isStatic(inside.getModifiers()) && !Modifier.isPublic(inside.getModifiers()));
            fields(inside, Set.of());
            for (Method m : inside.getDeclaredMethods()) {
                due(m + " bears no name of the face", !names.contains(m.getName()));
                due(m + " takes at most seven", m.getParameterCount() <= 7);
            }
        }
        room();
        System.out.println(wrong == 0 ? "the face is as due" : wrong + " things are not as due");
        if (wrong != 0) {
            System.exit(1);
        }
    }

    private static void due(String what, boolean holds) {
        if (!holds) {
            wrong++;
            System.out.println("does not hold: " + what);
        }
    }

    private static Set<String> methods(Class<?> face) {
        Set<String> found = new TreeSet<>();
        Set<String> names = new TreeSet<>();
        for (Method m : face.getDeclaredMethods()) {
            if (!Modifier.isPrivate(m.getModifiers())) {
                due(m + " is public", Modifier.isPublic(m.getModifiers()));
                found.add(signature(m));
                names.add(m.getName());
            }
        }
        due("methods are those of the document, not " + found, found.equals(FACE));
        for (Method m : face.getDeclaredMethods()) {
            due(m + " bears no name of the face",
                    !Modifier.isPrivate(m.getModifiers()) || !names.contains(m.getName()));
        }
        return names;
    }

    private static String signature(Method m) {
        StringBuilder text = new StringBuilder();
        for (Class<?> type : m.getParameterTypes()) {
            text.append(text.length() == 0 ? "" : ",").append(type.getName());
        }
        return m.getReturnType().getName() + " " + m.getName() + "(" + text + ")";
    }

    private static void constructors(Class<?> face) {
        Constructor<?>[] all = face.getDeclaredConstructors();
        due("one public constructor without arguments",
                all.length == 1 && all[0].getParameterCount() == 0 && Modifier.isPublic(all[0].getModifiers()));
    }

    private static void fields(Class<?> type, Set<String> open) {
        int own = 0;
        Set<String> found = new TreeSet<>();
        for (Field f : type.getDeclaredFields()) {
            int m = f.getModifiers();
            due(f + " is final if static", !Modifier.isStatic(m) || Modifier.isFinal(m));
            if (!Modifier.isStatic(m)) {
                own++;
            }
            if (Modifier.isPublic(m) || Modifier.isProtected(m)) {
                due(f + " is an int constant", Modifier.isStatic(m) && f.getType() == int.class);
                found.add(f.getName());
            }
            if (type == AlgebraTree.class) {
                due(f + " is public or private", Modifier.isPublic(m) || Modifier.isPrivate(m));
            }
        }
        due("open fields of " + type + " are " + open + ", not " + found, found.equals(open));
        due("at most twenty fields in " + type, own <= 20);
    }

    /** All calls of a run share some 600,000 objects and 7.3 million elements: one object may take few of them. */
    private static void room() {
        AlgebraTree x = dearest();
        int[] made = objectsAndElements(x);
        due("few objects, not " + made[0], made[0] <= 500);
        due("few elements, not " + made[1], made[1] <= 65000);
        x.run(29);
        x.same(29, 28);
        x.leaf(0, 0);
        x.distinct(0);
        due("as many behind more calls", Arrays.equals(objectsAndElements(x), made));
    }

    private static int[] objectsAndElements(Object first) {
        Map<Object, Boolean> found = new IdentityHashMap<>();
        Deque<Object> open = new ArrayDeque<>();
        int elements = 0;
        reach(first, found, open);
        while (!open.isEmpty()) {
            elements += parts(open.pop(), found, open);
        }
        return new int[] {found.size(), elements};
    }

    /** Every number of triples, expressions and nodes, and each node's rows over every graph. */
    private static AlgebraTree dearest() {
        AlgebraTree x = new AlgebraTree();
        for (int i = 0; i < 60; i++) {
            x.triple(i % 4, i, 0, 0);
        }
        for (int i = 0; i < 30; i++) {
            x.leaf(0, i);
        }
        x.pattern(-1, 0, 0);
        for (int i = 1; i < 28; i++) {
            x.left(i - 1, i - 1, 0);
        }
        x.graphs(5, 27);
        x.both(1, 27, 28);
        x.run(29);
        return x;
    }

    private static void reach(Object object, Map<Object, Boolean> found, Deque<Object> open) {
        if (object != null && found.put(object, true) == null) {
            open.push(object);
        }
    }

    /** How many fields or elements it has; what they lead to is open then. */
    private static int parts(Object object, Map<Object, Boolean> found, Deque<Object> open) {
        if (object.getClass().isArray()) {
            int length = Array.getLength(object);
            for (int i = 0; i < length && !object.getClass().getComponentType().isPrimitive(); i++) {
                reach(Array.get(object, i), found, open);
            }
            return length;
        }
        int count = 0;
        for (Field f : object.getClass().getDeclaredFields()) {
            if (Modifier.isStatic(f.getModifiers())) {
                continue;
            }
            count++;
            if (!f.getType().isPrimitive()) {
                f.setAccessible(true);
                reach(valueOf(f, object), found, open);
            }
        }
        return count;
    }

    private static Object valueOf(Field f, Object object) {
        try {
            return f.get(object);
        } catch (IllegalAccessException e) {
            throw new IllegalStateException(e);
        }
    }
}

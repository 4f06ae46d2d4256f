import java.lang.reflect.Constructor;
import java.lang.reflect.Field;
import java.lang.reflect.Method;
import java.lang.reflect.Modifier;
import java.util.Set;
import java.util.TreeSet;

/** The public face of the document, and the rules of LANGUAGE.md that reflection can see. */
public final class AlgebraTreeFaceTest {
    private static final Set<String> FACE = Set.of(
            "int triple(int,int,int,int)", "int leaf(int,int)", "int apply(int,int,int)",
            "int pattern(int,int,int)", "int both(int,int,int)", "int left(int,int,int)",
            "int filter(int,int)", "int extend(int,int,int)", "int project(int,int)",
            "int distinct(int)", "int slice(int,int,int)", "int order(int,int,boolean)",
            "int group(int,int,int,int,int)", "int graph(int,int)", "int graphs(int,int)",
            "int run(int)", "int value(int,int)", "int look(int,int)", "int many(int)",
            "boolean same(int,int)");

    private static int wrong = 0;

    public static void main(String[] args) {
        Class<?> face = AlgebraTree.class;
        due("public and final", Modifier.isPublic(face.getModifiers()) && Modifier.isFinal(face.getModifiers()));
        Set<String> names = methods(face);
        constructors(face);
        fields(face, Set.of("NONE", "ERROR"));
        due("at most twelve classes", face.getDeclaredClasses().length < 12);
        for (Class<?> inside : face.getDeclaredClasses()) {
            due(inside + " is static and hidden",
                    Modifier.isStatic(inside.getModifiers()) && !Modifier.isPublic(inside.getModifiers()));
            fields(inside, Set.of());
            for (Method m : inside.getDeclaredMethods()) {
                due(m + " bears no name of the face", !names.contains(m.getName()));
                due(m + " takes at most seven", m.getParameterCount() <= 7);
            }
        }
        System.out.println(wrong == 0 ? "the face is as due" : wrong + " things are not as due");
        if (wrong != 0) {
            System.exit(1);
        }
    }

    private static void due(String what, boolean holds) {
        if (!holds) {
            wrong++;
            System.out.println("does not hold: " + what);
        }
    }

    private static Set<String> methods(Class<?> face) {
        Set<String> found = new TreeSet<>();
        Set<String> names = new TreeSet<>();
        for (Method m : face.getDeclaredMethods()) {
            if (!Modifier.isPrivate(m.getModifiers())) {
                due(m + " is public", Modifier.isPublic(m.getModifiers()));
                found.add(signature(m));
                names.add(m.getName());
            }
        }
        due("methods are those of the document, not " + found, found.equals(FACE));
        for (Method m : face.getDeclaredMethods()) {
            due(m + " bears no name of the face",
                    !Modifier.isPrivate(m.getModifiers()) || !names.contains(m.getName()));
        }
        return names;
    }

    private static String signature(Method m) {
        StringBuilder text = new StringBuilder();
        for (Class<?> type : m.getParameterTypes()) {
            text.append(text.length() == 0 ? "" : ",").append(type.getName());
        }
        return m.getReturnType().getName() + " " + m.getName() + "(" + text + ")";
    }

    private static void constructors(Class<?> face) {
        Constructor<?>[] all = face.getDeclaredConstructors();
        due("one public constructor without arguments",
                all.length == 1 && all[0].getParameterCount() == 0 && Modifier.isPublic(all[0].getModifiers()));
    }

    private static void fields(Class<?> type, Set<String> open) {
        int own = 0;
        Set<String> found = new TreeSet<>();
        for (Field f : type.getDeclaredFields()) {
            int m = f.getModifiers();
            due(f + " is final if static", !Modifier.isStatic(m) || Modifier.isFinal(m));
            if (!Modifier.isStatic(m)) {
                own++;
            }
            if (Modifier.isPublic(m) || Modifier.isProtected(m)) {
                due(f + " is an int constant", Modifier.isStatic(m) && f.getType() == int.class);
                found.add(f.getName());
            }
            if (type == AlgebraTree.class) {
                due(f + " is public or private", Modifier.isPublic(m) || Modifier.isPrivate(m));
            }
        }
        due("open fields of " + type + " are " + open + ", not " + found, found.equals(open));
        due("at most twenty fields in " + type, own <= 20);
    }
}

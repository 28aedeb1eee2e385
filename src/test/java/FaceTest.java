import java.lang.reflect.Constructor;
import java.lang.reflect.Field;
import java.lang.reflect.Method;
import java.lang.reflect.Modifier;
import java.util.Arrays;
import java.util.TreeSet;

/** The public face of the document, and nothing else that another class could see. */
public final class FaceTest {
    private static final String[] METHODS = {
        "int house(int,int,int)", "int sets(int,int,int)", "int weight(int,int)", "int fuse(int)", "int tie(int,int)",
        "int loosens()", "int anew()", "int draw(int,int)", "int of(int,int)", "int takes(int,int)",
        "int load(int,int)", "int neutral(int)", "int grief()", "int good(int)", "int worst(int)",
        "int change(int,int)", "int swap(int,int)", "int step()", "int down()", "int lay()", "int undo()",
        "int best(int)", "int phase(int)", "int by(int)", "int fewest(int)", "int many()", "int next(int)",
        "int told(int)", "long digest()"};

    public static void main(String[] args) {
        Check.holds("public and final", Modifier.isPublic(PhaseLoads.class.getModifiers())
            && Modifier.isFinal(PhaseLoads.class.getModifiers()));
        constants();
        constructors();
        methods();
        classesInside();
        Check.end();
    }

    private static void constants() {
        Check.due("NONE", PhaseLoads.NONE, -1);
        Check.due("BAD", PhaseLoads.BAD, -2);
        Check.due("NO", PhaseLoads.NO, -3);
        Check.due("FULL", PhaseLoads.FULL, -4);
        int open = 0;
        for (Field field : PhaseLoads.class.getDeclaredFields()) {
            open += Modifier.isPrivate(field.getModifiers()) ? 0 : 1;
            Check.holds("static fields are final: " + field,
                !Modifier.isStatic(field.getModifiers()) || Modifier.isFinal(field.getModifiers()));
        }
        Check.due("fields that can be seen", open, 4);
    }

    private static void constructors() {
        Constructor<?>[] all = PhaseLoads.class.getDeclaredConstructors();
        Check.due("constructors", all.length, 1);
        Check.holds("public, without arguments",
            Modifier.isPublic(all[0].getModifiers()) && all[0].getParameterCount() == 0);
    }

    private static void methods() {
        TreeSet<String> due = new TreeSet<>(Arrays.asList(METHODS));
        TreeSet<String> seen = new TreeSet<>();
        TreeSet<String> names = new TreeSet<>();
        for (Method method : PhaseLoads.class.getDeclaredMethods()) {
            if (!Modifier.isPrivate(method.getModifiers())) {
                seen.add(written(method));
                names.add(method.getName());
                Check.holds("public, of an object: " + method, Modifier.isPublic(method.getModifiers())
                    && !Modifier.isStatic(method.getModifiers()));
            }
        }
        Check.holds("methods " + seen, seen.equals(due));
        noNameTwice(PhaseLoads.class, names);
        for (Class<?> inside : PhaseLoads.class.getDeclaredClasses()) {
            noNameTwice(inside, names);
        }
    }

    private static void noNameTwice(Class<?> type, TreeSet<String> publicNames) {
        for (Method method : type.getDeclaredMethods()) {
            Check.holds("no other method has a public one's name: " + method,
                Modifier.isPublic(method.getModifiers()) || !publicNames.contains(method.getName()));
            Check.holds("seven parameters at most: " + method, method.getParameterCount() <= 7);
        }
    }

    private static String written(Method method) {
        StringBuilder text = new StringBuilder(method.getReturnType() + " " + method.getName() + "(");
        for (Class<?> type : method.getParameterTypes()) {
            text.append(text.charAt(text.length() - 1) == '(' ? "" : ",").append(type);
        }
        return text.append(")").toString();
    }

    private static void classesInside() {
        Class<?>[] inside = PhaseLoads.class.getDeclaredClasses();
        Check.holds("twelve classes at most", inside.length <= 12);
        for (Class<?> type : inside) {
            Check.holds("static and not public: " + type, Modifier.isStatic(type.getModifiers())
                && !Modifier.isPublic(type.getModifiers()) && !Modifier.isProtected(type.getModifiers()));
            Check.holds("twenty fields at most: " + type, type.getDeclaredFields().length <= 20);
        }
    }
}

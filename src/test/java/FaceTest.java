import java.lang.reflect.Constructor;
import java.lang.reflect.Field;
import java.lang.reflect.Method;
import java.lang.reflect.Modifier;
import java.util.Arrays;
import java.util.Set;
import java.util.TreeSet;

/** The public face is the document's, and there is nothing beside it (LANGUAGE.md, rules 1, 5 and 11). */
public final class FaceTest {
    private static final String FACE =
        "int country(int) int walker(int,int) int height(int) int comes(int,int,int) int raises(int,int) "
        + "int moves(int,int) int turns(int,int) int days(int) int ground(int) int water(int) int lakes() "
        + "int rise(int) int steepest(int) int behind(int,int) int groundThen(int,int) int arrives(int,int) "
        + "int stuck(int) int goes(int,int) int far(int,int) int company(int,int) int hire(int,int,int) "
        + "int sit(int,int) int apart(int) int keeps() int even() int order(int) int ages(int,int,int) "
        + "int whatIs(int,int,int) int two(int,int) long fog(int,int,int,int,int) long mean(int) "
        + "int shares(int,int,int) int forged(int) int judge(int) int countries(int,int,int) int image() "
        + "int restore() int count(int) int keep(int,int,int,int) int row(int,int,int) int put(int,int,int) "
        + "long element(int,int) int copy(int,int,int,int,int) int cost(int) int toss(int)";

    public static void main(String[] args) {
        Class<?> face = HillsLieDown.class;
        Check.due("public and final", face.getModifiers(), Modifier.PUBLIC | Modifier.FINAL);
        Set<String> shown = new TreeSet<>();
        Set<String> shownNames = new TreeSet<>();
        for (Method m : face.getDeclaredMethods()) {
            if (!Modifier.isPrivate(m.getModifiers())) {
                Check.due("plain public: " + m, m.getModifiers(), Modifier.PUBLIC);
                shownNames.add(m.getName());
                shown.add(told(m));
            }
        }
        Set<String> wanted = new TreeSet<>(Arrays.asList(FACE.split(" (?=int |long )")));
        Check.due("methods: " + shown, shown.equals(wanted) ? 1 : 0, 1);
        Check.due("how many", shown.size(), 45);
        Constructor<?>[] made = face.getDeclaredConstructors();
        Check.due("constructors", made.length, 1);
        Check.due("without arguments, public", made[0].getParameterCount() + made[0].getModifiers(), Modifier.PUBLIC);
        fieldsArePrivate(face);
        thrownByElement();
        for (Method m : face.getDeclaredMethods()) {
            boolean bears = Modifier.isPrivate(m.getModifiers()) && shownNames.contains(m.getName());
            Check.due("a private method with a public one's name: " + m, bears ? 1 : 0, 0);
        }
        classesInside(face);
        Check.end("FaceTest");
    }

    private static String told(Method m) {
        StringBuilder told = new StringBuilder(m.getReturnType().getName() + " " + m.getName() + "(");
        for (Class<?> c : m.getParameterTypes()) {
            told.append(told.charAt(told.length() - 1) == '(' ? "" : ",").append(c.getName());
        }
        return told + ")";
    }

    private static void fieldsArePrivate(Class<?> face) {
        int ofObjects = 0;
        for (Field f : face.getDeclaredFields()) {
            Check.due("private: " + f, Modifier.isPrivate(f.getModifiers()) ? 1 : 0, 1);
            boolean isStatic = Modifier.isStatic(f.getModifiers());
            Check.due("static ones are final: " + f, isStatic && !Modifier.isFinal(f.getModifiers()) ? 1 : 0, 0);
            ofObjects += isStatic ? 0 : 1;
        }
        Check.due("some twenty fields at most", ofObjects <= 20 ? 1 : 0, 1);
    }

    private static void thrownByElement() {
        try {
            Class<?>[] thrown = HillsLieDown.class.getMethod("element", int.class, int.class).getExceptionTypes();
            Check.due("what element throws", Arrays.asList(thrown).equals(
                Arrays.asList(IllegalArgumentException.class, IllegalStateException.class)) ? 1 : 0, 1);
        } catch (NoSuchMethodException e) {
            Check.due("element", 0, 1);
        }
    }

    private static void classesInside(Class<?> face) {
        Class<?>[] inside = face.getDeclaredClasses();
        Check.due("some twelve classes at most", inside.length + 1 <= 12 ? 1 : 0, 1);
        for (Class<?> c : inside) {
            int m = c.getModifiers();
            boolean hidden = !Modifier.isPublic(m) && !Modifier.isProtected(m) && Modifier.isStatic(m);
            Check.due("inside, static and not public: " + c, hidden ? 1 : 0, 1);
            for (Field f : c.getDeclaredFields()) {
                boolean loose = Modifier.isStatic(f.getModifiers()) && !Modifier.isFinal(f.getModifiers());
                Check.due("static ones are final: " + f, loose ? 1 : 0, 0);
            }
        }
    }
}

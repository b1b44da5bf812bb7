import java.lang.reflect.Constructor;
import java.lang.reflect.Field;
import java.lang.reflect.Method;
import java.lang.reflect.Modifier;
import java.util.Arrays;
import java.util.NoSuchElementException;
import java.util.Set;
import java.util.TreeSet;

/** The class has the document's face, and no other member that can be seen. */
public final class FaceTest {
    private static final String[] FACE = {
        "boolean move(int,int)", "boolean price(int,int)", "boolean sick(int,boolean)",
        "boolean wish(int,int)", "int bring(int,int,int)", "int cabinet(int,int,int,int,int)",
        "int chosen()", "int clear()", "int count(int)", "int in(int,int)", "int need(int)",
        "int of(int,int)", "int pack(int,int)", "int places(int)", "int plan(int)",
        "int planned(int)", "int point(int,int,int)", "int round()", "int run(int)",
        "int set(int,int)", "int stop(int)", "int swap(int,int,int)", "int take(int)",
    };

    public static void main(String[] args) throws Exception {
        Class<SwapGo> face = SwapGo.class;
        Check.due("the class is public and final", face.getModifiers() & (Modifier.PUBLIC | Modifier.FINAL),
                Modifier.PUBLIC | Modifier.FINAL);
        Check.due("its methods", visibleMethods(face).toString(), new TreeSet<>(Arrays.asList(FACE)).toString());
        for (Constructor<?> made : face.getDeclaredConstructors()) {
            Check.due("its constructor", made.toString(), "public SwapGo()");
        }
        Check.due("of throws", Arrays.toString(face.getMethod("of", int.class, int.class).getExceptionTypes()),
                Arrays.toString(new Class<?>[] {NoSuchElementException.class}));
        checkFields(face);
        checkPrivateNames(face);
        Check.due("NONE", SwapGo.NONE, -1);
        Check.end("FaceTest");
    }

    private static Set<String> visibleMethods(Class<?> face) {
        Set<String> found = new TreeSet<>();
        for (Method m : face.getDeclaredMethods()) {
            if (!Modifier.isPrivate(m.getModifiers())) {
                String types = Arrays.toString(m.getParameterTypes()).replaceAll("[\\[\\] ]", "");
                found.add(m.getReturnType() + " " + m.getName() + "(" + types + ")");
            }
        }
        return found;
    }

    private static void checkFields(Class<?> face) {
        for (Field f : face.getDeclaredFields()) {
            boolean isNone = f.getName().equals("NONE");
            int visible = Modifier.PUBLIC | Modifier.STATIC | Modifier.FINAL;
            Check.due("how field " + f.getName() + " is seen", isNone ? f.getModifiers() == visible
                    : Modifier.isPrivate(f.getModifiers()), true);
            Check.due("static field " + f.getName() + " is final",
                    Modifier.isStatic(f.getModifiers()) && !Modifier.isFinal(f.getModifiers()), false);
        }
    }

    private static void checkPrivateNames(Class<?> face) {
        Set<String> names = new TreeSet<>();
        for (Method m : face.getMethods()) {
            names.add(m.getName());
        }
        for (Method m : face.getDeclaredMethods()) {
            boolean isTaken = Modifier.isPrivate(m.getModifiers()) && names.contains(m.getName());
            Check.due("private " + m.getName() + " has a public method's name", isTaken, false);
        }
    }
}

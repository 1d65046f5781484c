import java.lang.reflect.Constructor;
import java.lang.reflect.Field;
import java.lang.reflect.Method;
import java.lang.reflect.Modifier;
import java.util.Arrays;
import java.util.List;
import java.util.Set;
import java.util.TreeSet;

/** The public face is the one of the document, and nothing else of the class can be reached from outside. */
final class FaceTest {
    private static final List<String> METHODS = List.of(
            "int size(int,int)", "int brew(int,int,int)", "int transfer(int,int,int)", "int lose(int,int,int)",
            "int setLoss(int)", "int rate(int,int,int)", "int order(int,int,int,int)", "int drop(int)",
            "int fill(int,int)", "int fillAll()", "int clean(int)", "int pass(int)",
            "int feed(int,int,int,int,int,int)", "int run()", "int reason()", "int ofTank(int,int)",
            "int litres(int,int)", "int ofBatch(int,int)", "int mix(int,int,int,int)", "int ofOrder(int,int)",
            "int planned(int)", "int holds(int,int)", "long excise(int)", "int correct()", "int entry(int,int)",
            "long account(int)", "int back()", "int image()", "int undo()", "int count(int)");

    public static void main(String[] args) {
        Class<?> face = BreweryCellar.class;
        Check.holds("the class is public and final",
                Modifier.isPublic(face.getModifiers()) && Modifier.isFinal(face.getModifiers()));
        methods(face);
        fieldsAndConstructors(face);
        classesInside(face);
        Check.finish();
    }

    private static String described(Method method) {
        StringBuilder text = new StringBuilder(method.getReturnType() + " " + method.getName() + "(");
        for (Class<?> type : method.getParameterTypes()) {
            text.append(text.charAt(text.length() - 1) == '(' ? "" : ",").append(type);
        }
        return text.append(")").toString();
    }

    private static void methods(Class<?> face) {
        Set<String> due = new TreeSet<>(METHODS);
        Set<String> names = new TreeSet<>();
        Set<String> found = new TreeSet<>();
        for (Method method : face.getDeclaredMethods()) {
            if (Modifier.isPublic(method.getModifiers())) {
                found.add(described(method));
                names.add(method.getName());
                Check.holds(method + " is no static one", !Modifier.isStatic(method.getModifiers()));
            }
        }
        Check.holds("public methods " + found + " are " + due, found.equals(due));
        for (Method method : face.getDeclaredMethods()) {
            if (!Modifier.isPublic(method.getModifiers())) {
                Check.holds(method + " is private", Modifier.isPrivate(method.getModifiers()));
                Check.holds(method + " bears a name of its own", !names.contains(method.getName()));
            }
        }
    }

    private static void fieldsAndConstructors(Class<?> face) {
        Set<String> found = new TreeSet<>();
        for (Field field : face.getDeclaredFields()) {
            if (Modifier.isPublic(field.getModifiers())) {
                found.add(field.getName());
                Check.holds(field + " is a constant", field.getType() == int.class
                        && Modifier.isStatic(field.getModifiers()) && Modifier.isFinal(field.getModifiers()));
            } else {
                Check.holds(field + " is private", Modifier.isPrivate(field.getModifiers()));
            }
            Check.holds(field + " is no static state",
                    !Modifier.isStatic(field.getModifiers()) || Modifier.isFinal(field.getModifiers()));
        }
        Check.holds("constants", found.equals(new TreeSet<>(List.of("NONE", "BAD", "STATE", "FULL"))));
        Constructor<?>[] constructors = face.getDeclaredConstructors();
        Check.due("constructors", constructors.length, 1);
        Check.holds("the constructor is public and without parameters",
                Modifier.isPublic(constructors[0].getModifiers()) && constructors[0].getParameterCount() == 0);
    }

    private static void classesInside(Class<?> face) {
        Class<?>[] inside = face.getDeclaredClasses();
        Check.holds("few classes: " + Arrays.toString(inside), inside.length <= 12);
        for (Class<?> one : inside) {
            int modifiers = one.getModifiers();
            Check.holds(one + " is static", Modifier.isStatic(modifiers));
            Check.holds(one + " is hidden", !Modifier.isPublic(modifiers) && !Modifier.isProtected(modifiers));
        }
    }
}

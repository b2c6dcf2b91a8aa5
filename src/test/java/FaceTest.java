import java.lang.reflect.Constructor;
import java.lang.reflect.Field;
import java.lang.reflect.Method;
import java.lang.reflect.Modifier;
import java.util.ArrayList;
import java.util.Arrays;
import java.util.List;
import java.util.TreeSet;

/** The public face, to the letter, and nothing beside it. */
public final class FaceTest {
    private static final String[] FACE = {
        "int feed(int, int, int, int, int)", "int terms(int)", "int fault(int)", "int village(int, int, int, int)",
        "boolean like(int, int, int)", "int road(int, int, int, int)", "int van(int)", "boolean broken(int, int)",
        "int print(int, int, int, int, int, int, int)", "boolean egg(int, int)", "int way(int, int, int)",
        "int entry(int, int, int, int)", "int hand(int, int, int)", "int clear(int)", "int shown(int, int, int)",
        "int run(int, int)", "int where(int, int, int)", "int printed(int, int, int)", "long expected(int)",
        "int round(int, int)", "int rounded(int)", "int report(int, int, int)", "int strike(int)", "int ends(int, int)",
        "int look(int, int) throws IndexOutOfBoundsException, NoSuchElementException", "int count(int)"};

    private static String names(Class<?>[] types) {
        List<String> names = new ArrayList<>();
        for (Class<?> type : types) {
            names.add(type.getSimpleName());
        }
        return String.join(", ", names);
    }

    private static String told(Method method) {
        String thrown = names(method.getExceptionTypes());
        return method.getReturnType().getSimpleName() + " " + method.getName() + "(" + names(method.getParameterTypes())
            + ")" + (thrown.isEmpty() ? "" : " throws " + thrown);
    }

    /** Those beside its constants. */
    private static int ownFields(Class<?> type) {
        int fields = 0;
        for (Field field : type.getDeclaredFields()) {
            fields += Modifier.isStatic(field.getModifiers()) ? 0 : 1;
        }
        return fields;
    }

    public static void main(String[] args) {
        Class<VanShows> type = VanShows.class;
        TreeSet<String> seen = new TreeSet<>();
        TreeSet<String> publicNames = new TreeSet<>();
        for (Method method : type.getDeclaredMethods()) {
            if (!Modifier.isPrivate(method.getModifiers())) {
                seen.add(told(method));
                publicNames.add(method.getName());
                Check.due(method + " is public", Modifier.isPublic(method.getModifiers()), true);
                Check.due(method + " is static", Modifier.isStatic(method.getModifiers()), false);
            }
        }
        TreeSet<String> wanted = new TreeSet<>(Arrays.asList(FACE));
        System.out.println(seen.equals(wanted) ? "the face is whole" : seen + " is not " + wanted);
        Check.due("the face is the document's", seen.equals(wanted), true);
        for (Method method : type.getDeclaredMethods()) {
            boolean hidden = Modifier.isPrivate(method.getModifiers());
            Check.due("private twin of " + method.getName(), hidden && publicNames.contains(method.getName()), false);
        }
        for (Field field : type.getDeclaredFields()) {
            boolean hidden = Modifier.isPrivate(field.getModifiers());
            Check.due("field " + field.getName() + " may stand", hidden || field.getName().equals("NONE"), true);
        }
        for (Class<?> inside : type.getDeclaredClasses()) {
            for (Method method : inside.getDeclaredMethods()) {
                Check.due("twin of " + method.getName(), publicNames.contains(method.getName()), false);
                Check.due(method + " has at most seven parameters", method.getParameterCount() <= 7, true);
            }
            Check.due("fields of " + inside.getSimpleName(), ownFields(inside) <= 20, true);
            int modifiers = inside.getModifiers();
            boolean can = Modifier.isStatic(modifiers) && !Modifier.isPublic(modifiers) && !Modifier.isProtected(modifiers);
            Check.due("class " + inside.getSimpleName() + " may stand", can, true);
        }
        Constructor<?>[] makers = type.getDeclaredConstructors();
        Check.due("constructors", makers.length, 1);
        Check.due("the constructor is public", Modifier.isPublic(makers[0].getModifiers()), true);
        Check.due("the constructor's parameters", makers[0].getParameterCount(), 0);
        Check.due("the class is final", Modifier.isFinal(type.getModifiers()), true);
        Check.due("the class is public", Modifier.isPublic(type.getModifiers()), true);
        Check.due("NONE", VanShows.NONE, -1);
        Check.end();
    }
}

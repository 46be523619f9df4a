import java.lang.reflect.Constructor;
import java.lang.reflect.Field;
import java.lang.reflect.Method;
import java.lang.reflect.Modifier;
import java.util.Set;
import java.util.TreeSet;

/** The public face, as the document and rule 1 of the language want it. */
final class FaceTest {
    private FaceTest() {
    }

    public static void main(String[] args) {
        Class<?> face = SlotFiller.class;
        Check.holds("the class is public and final",
                Modifier.isPublic(face.getModifiers()) && Modifier.isFinal(face.getModifiers()));
        Check.same("NONE", -1, SlotFiller.NONE);
        Check.same("constructors", 1, face.getDeclaredConstructors().length);
        for (Constructor<?> constructor : face.getDeclaredConstructors()) {
            Check.holds("the constructor is public and takes nothing",
                    Modifier.isPublic(constructor.getModifiers())
                            && constructor.getParameterCount() == 0);
        }
        Set<String> methods = new TreeSet<>();
        for (Method method : face.getDeclaredMethods()) {
            if (!Modifier.isPrivate(method.getModifiers()) && !method.isSynthetic()) {
                methods.add(method.toGenericString());
            }
        }
        String of = "public int SlotFiller.";
        String index = " throws java.lang.IndexOutOfBoundsException";
        String argument = " throws java.lang.IllegalArgumentException";
        Set<String> due = new TreeSet<>(Set.of(
                of + "latency(int,int)" + argument,
                of + "add(int)" + argument + ",java.lang.IllegalStateException",
                of + "schedule(boolean,boolean)",
                of + "word(int)" + index,
                of + "from(int)" + index,
                of + "depends(int,int)" + index,
                of + "height(int)" + index,
                of + "cycles()",
                of + "count(int)"));
        Check.holds("the methods are " + methods + ", due are " + due, methods.equals(due));
        for (Field field : face.getDeclaredFields()) {
            Check.holds("the field " + field.getName() + " is private",
                    field.getName().equals("NONE") || Modifier.isPrivate(field.getModifiers()));
        }
        Check.end();
    }
}

import java.lang.reflect.Constructor;
import java.lang.reflect.Field;
import java.lang.reflect.Method;
import java.lang.reflect.Modifier;
import java.util.Arrays;
import java.util.Set;
import java.util.TreeSet;

/** The public face, no more and no less (LANGUAGE.md, rule 1). */
public final class FaceTest {
    private static final Set<String> FACE = Set.of(
        "field NONE int static final",
        "new []",
        "void poke[int, int] IndexOutOfBoundsException",
        "void picture[int, int, int, int, int, int] NoSuchElementException IllegalArgumentException",
        "void manner[int, int, int, int] NoSuchElementException IllegalArgumentException",
        "void border[int, int, int, int, int] NoSuchElementException",
        "int texel[int, int, int, int, int] NoSuchElementException IndexOutOfBoundsException",
        "int texels[int] NoSuchElementException",
        "int read[int, int, int, int] NoSuchElementException",
        "int also[int] IndexOutOfBoundsException");

    private static final Set<String> PUBLIC_NAMES =
        Set.of("poke", "picture", "manner", "border", "texel", "texels", "read", "also");

    public static void main(String[] args) {
        Set<String> found = new TreeSet<>();
        for (Field f : TextureUnits.class.getDeclaredFields()) {
            if (!Modifier.isPrivate(f.getModifiers())) {
                found.add("field " + f.getName() + " " + f.getType()
                    + (Modifier.isStatic(f.getModifiers()) ? " static" : "")
                    + (Modifier.isFinal(f.getModifiers()) ? " final" : ""));
            }
            if (Modifier.isStatic(f.getModifiers()) && !Modifier.isFinal(f.getModifiers())) {
                Check.say("a static field that is not final: " + f.getName());
            }
        }
        for (Constructor<?> c : TextureUnits.class.getDeclaredConstructors()) {
            found.add("new " + types(c.getParameterTypes()));
        }
        for (Method m : TextureUnits.class.getDeclaredMethods()) {
            if (!Modifier.isPrivate(m.getModifiers())) {
                found.add(m.getReturnType() + " " + m.getName() + types(m.getParameterTypes())
                    + thrown(m.getExceptionTypes()));
            } else if (PUBLIC_NAMES.contains(m.getName())) {
                Check.say("a private method bears the name " + m.getName());
            }
        }
        if (!found.equals(FACE)) {
            Check.say("the face is " + found);
        }
        int modifiers = TextureUnits.class.getModifiers();
        if (!Modifier.isPublic(modifiers) || !Modifier.isFinal(modifiers)) {
            Check.say("the class is not public and final");
        }
        Check.due("NONE", TextureUnits.NONE, -1);
        Check.end();
    }

    private static String types(Class<?>[] types) {
        return Arrays.toString(types);
    }

    private static String thrown(Class<?>[] types) {
        StringBuilder names = new StringBuilder();
        for (Class<?> type : types) {
            names.append(' ').append(type.getSimpleName());
        }
        return names.toString();
    }
}

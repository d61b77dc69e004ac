import java.lang.reflect.Constructor;
import java.lang.reflect.Field;
import java.lang.reflect.Method;
import java.lang.reflect.Modifier;
import java.util.Arrays;
import java.util.Set;
import java.util.TreeSet;

/** The class has the members of the document's face, and shows no other (LANGUAGE.md, rules 1 and 5). */
public final class FaceTest {
    private static final String[] FACE = {
        "final int NONE", "final int OUTSIDE", "final int STATE", "final int ROOM",
        "TempoMaps[]",
        "int step[int, int]", "int slope[int, int, int, int]", "int modulate[int, int, int]", "int drop[int]",
        "int hold[int, int]", "int mark[int, int]", "int count[int]", "int lasts[int]", "long time[int]",
        "int tick[long]", "int held[long]", "long frame[int, int]", "int tickOf[long, int]", "int tap[long]",
        "int noTaps[]", "long fit[int]", "long pace[int]"};

    private static int wrong = 0;

    private static void check(String what, boolean holds) {
        if (!holds) {
            wrong++;
            System.out.println("it does not hold that " + what);
        }
    }

    private static String types(Class<?>[] parameters) {
        return Arrays.toString(Arrays.stream(parameters).map(Class::getName).toArray());
    }

    public static void main(String[] args) {
        Class<?> face = TempoMaps.class;
        Set<String> shown = new TreeSet<>();
        Set<String> publicNames = new TreeSet<>();
        Set<String> privateNames = new TreeSet<>();
        for (Field f : face.getDeclaredFields()) {
            boolean isConstant = Modifier.isStatic(f.getModifiers()) && Modifier.isFinal(f.getModifiers());
            check(f.getName() + " is private or a constant", isConstant || Modifier.isPrivate(f.getModifiers()));
            check(f.getName() + " is final if it is static", isConstant || !Modifier.isStatic(f.getModifiers()));
            if (!Modifier.isPrivate(f.getModifiers())) {
                check(f.getName() + " is public", Modifier.isPublic(f.getModifiers()));
                shown.add("final " + f.getType() + " " + f.getName());
            }
        }
        for (Constructor<?> c : face.getDeclaredConstructors()) {
            check("each constructor is public", Modifier.isPublic(c.getModifiers()));
            shown.add(c.getName() + types(c.getParameterTypes()));
        }
        for (Method m : face.getDeclaredMethods()) {
            if (Modifier.isPrivate(m.getModifiers())) {
                privateNames.add(m.getName());
            } else {
                check(m.getName() + " is public and no static one",
                        Modifier.isPublic(m.getModifiers()) && !Modifier.isStatic(m.getModifiers()));
                publicNames.add(m.getName());
                shown.add(m.getReturnType() + " " + m.getName() + types(m.getParameterTypes()));
            }
        }
        for (Class<?> c : face.getDeclaredClasses()) {
            check(c.getName() + " is static", Modifier.isStatic(c.getModifiers()));
            check(c.getName() + " is not public", !Modifier.isPublic(c.getModifiers()));
        }
        check("the class is public and final",
                Modifier.isPublic(face.getModifiers()) && Modifier.isFinal(face.getModifiers()));
        check("what is shown is the face: " + shown, shown.equals(new TreeSet<>(Arrays.asList(FACE))));
        privateNames.retainAll(publicNames);
        check("no private method bears a public one's name: " + privateNames, privateNames.isEmpty());
        System.out.println(wrong == 0 ? "the face is as due" : wrong + " things are not as due");
        if (wrong != 0) {
            System.exit(1);
        }
    }
}

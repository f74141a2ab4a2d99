import java.lang.reflect.Constructor;
import java.lang.reflect.Field;
import java.lang.reflect.Method;
import java.lang.reflect.Modifier;
import java.util.Arrays;
import java.util.HashSet;
import java.util.Set;

/** The class has the document's members and shows no others. */
public final class FaceTest {
    private static final Set<String> METHODS = Set.of(
            "public int SeedMill.feed(long,int)", "public int SeedMill.clear()",
            "public int SeedMill.seed()", "public int SeedMill.reseed()",
            "public int SeedMill.draw(int)", "public int SeedMill.interval(int)",
            "public int SeedMill.out(int)", "public int SeedMill.counter()",
            "public int SeedMill.state(int,int)", "public int SeedMill.forget()",
            "public int SeedMill.hash(int)", "public int SeedMill.own()",
            "public int SeedMill.keyed(int)", "public int SeedMill.count(int)",
            "public int SeedMill.check()");

    public static void main(String[] args) {
        Due.is("modifiers of the class", Modifier.PUBLIC | Modifier.FINAL, SeedMill.class.getModifiers());
        Due.is("NONE", -1, SeedMill.NONE);
        methods();
        fields();
        constructors();
        nestedClasses();
        Due.finish();
    }

    private static void methods() {
        Set<String> shown = new HashSet<>();
        Set<String> shownNames = new HashSet<>();
        for (Method method : SeedMill.class.getDeclaredMethods()) {
            if (!Modifier.isPrivate(method.getModifiers())) {
                shown.add(method.toString());
                shownNames.add(method.getName());
            }
        }
        Due.holds("methods " + shown, shown.equals(METHODS));
        for (Method method : SeedMill.class.getDeclaredMethods()) {
            if (Modifier.isPrivate(method.getModifiers())) {
                Due.holds("own name of " + method, !shownNames.contains(method.getName()));
            }
        }
    }

    private static void fields() {
        int shown = 0;
        for (Field field : SeedMill.class.getDeclaredFields()) {
            int modifiers = field.getModifiers();
            if (!Modifier.isPrivate(modifiers)) {
                shown++;
                Due.holds("field " + field,
                        field.toString().equals("public static final int SeedMill.NONE"));
            }
            Due.holds("final if static: " + field,
                    !Modifier.isStatic(modifiers) || Modifier.isFinal(modifiers));
        }
        Due.is("shown fields", 1, shown);
    }

    private static void constructors() {
        Constructor<?>[] all = SeedMill.class.getDeclaredConstructors();
        Due.holds("constructors " + Arrays.toString(all),
                all.length == 1 && all[0].toString().equals("public SeedMill()"));
    }

    private static void nestedClasses() {
        for (Class<?> nested : SeedMill.class.getDeclaredClasses()) {
            int modifiers = nested.getModifiers();
            Due.holds("static and not public: " + nested, Modifier.isStatic(modifiers)
                    && !Modifier.isPublic(modifiers) && !Modifier.isProtected(modifiers));
        }
    }
}

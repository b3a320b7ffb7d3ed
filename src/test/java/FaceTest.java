import java.lang.reflect.Constructor;
import java.lang.reflect.Field;
import java.lang.reflect.Method;
import java.lang.reflect.Modifier;
import java.util.List;
import java.util.Set;
import java.util.TreeSet;

/** The public face as the document writes it, and nothing beside it: LANGUAGE.md, rule 1. */
public final class FaceTest {
    private static final Due DUE = new Due();
    private static final List<String> METHODS = List.of(
        "public int NestedFoci.feed(int,int)", "public int NestedFoci.thing(int)", "public int NestedFoci.path(int)",
        "public int NestedFoci.join(int,int)", "public int NestedFoci.over(int,int,int,int,int)",
        "public int NestedFoci.put(int,int,int,int,int)", "public int NestedFoci.take(int,int,int,int)",
        "public int NestedFoci.undo(int)", "public long NestedFoci.look(int,int,int,int)",
        "public int NestedFoci.key(int,int,int,int)", "public long NestedFoci.fold(int,int,int)",
        "public int NestedFoci.best(int,int,int,int)", "public int NestedFoci.order(int,int)",
        "public int NestedFoci.shared(int,int)", "public int NestedFoci.differ(int,int,int)",
        "public int NestedFoci.fit(int,int,int)", "public int NestedFoci.image()", "public int NestedFoci.back()",
        "public int NestedFoci.count(int)");
    private static final Set<String> CONSTANTS = Set.of("NONE", "BAD", "STATE", "FULL", "MADE", "NO");

    public static void main(String[] args) {
        face();
        DUE.end();
    }

    private static void face() {
        Set<String> found = new TreeSet<>();
        Set<String> names = new TreeSet<>();
        for (Method m : NestedFoci.class.getDeclaredMethods()) {
            if (!Modifier.isPrivate(m.getModifiers()) && !m.isSynthetic()) {
                found.add(m.toString());
                names.add(m.getName());
            }
        }
        DUE.is("the face's methods " + found, found.equals(new TreeSet<>(METHODS)) ? 1 : 0, 1);
        Set<String> constants = new TreeSet<>();
        for (Field f : NestedFoci.class.getDeclaredFields()) {
            if (!Modifier.isPrivate(f.getModifiers())) {
                constants.add(f.getName());
                int all = Modifier.PUBLIC | Modifier.STATIC | Modifier.FINAL;
                DUE.is("modifiers of " + f.getName(), f.getModifiers(), all);
            }
        }
        DUE.is("the face's constants " + constants, constants.equals(new TreeSet<>(CONSTANTS)) ? 1 : 0, 1);
        Constructor<?>[] makers = NestedFoci.class.getDeclaredConstructors();
        DUE.is("constructors", makers.length, 1);
        DUE.is("its parameters", makers[0].getParameterCount(), 0);
        DUE.is("public and final", NestedFoci.class.getModifiers(), Modifier.PUBLIC | Modifier.FINAL);
        for (Class<?> c : NestedFoci.class.getDeclaredClasses()) {
            for (Method m : c.getDeclaredMethods()) {
                DUE.is("a name of the face: " + m, names.contains(m.getName()) ? 1 : 0, 0);
            }
        }
        for (Method m : NestedFoci.class.getDeclaredMethods()) {
            boolean isTwice = Modifier.isPrivate(m.getModifiers()) && names.contains(m.getName());
            DUE.is("a private name of the face: " + m, isTwice ? 1 : 0, 0);
        }
    }
}

import java.lang.reflect.Member;
import java.lang.reflect.Modifier;
import java.util.ArrayList;
import java.util.List;
import java.util.Set;
import java.util.TreeSet;

/** The public face, and nothing beside it. */
public final class FaceTest {
    private static final Set<String> FACE = Set.of(
            "REFUSED int", "NONE int", "FULL int",
            "RuleRunner()",
            "int feed(int, int, int, int, int)", "int end(int)", "int program()",
            "int run(int, int)", "int undo()", "long cell(int)", "int set(int, int)",
            "int count(int)");

    public static void main(String[] args) {
        Checks.about("The public face");
        Checks.due("REFUSED", RuleRunner.REFUSED, -1);
        Checks.due("NONE", RuleRunner.NONE, -2);
        Checks.due("FULL", RuleRunner.FULL, -3);
        Checks.due("the class is public and final",
                RuleRunner.class.getModifiers(), Modifier.PUBLIC | Modifier.FINAL);
        Set<String> seen = visibleMembers();
        Checks.due("the face " + new TreeSet<>(seen), seen.equals(FACE) ? 1 : 0, 1);
        noPrivateNamesake();
        Checks.finish();
    }

    private static Set<String> visibleMembers() {
        Set<String> seen = new TreeSet<>();
        for (var f : RuleRunner.class.getDeclaredFields()) {
            if (!Modifier.isPrivate(f.getModifiers())) {
                seen.add(f.getName() + " " + f.getType());
            }
        }
        for (var c : RuleRunner.class.getDeclaredConstructors()) {
            if (!Modifier.isPrivate(c.getModifiers())) {
                seen.add("RuleRunner(" + list(c.getParameterTypes()) + ")");
            }
        }
        for (var m : RuleRunner.class.getDeclaredMethods()) {
            if (!Modifier.isPrivate(m.getModifiers())) {
                seen.add(m.getReturnType() + " " + m.getName() + "("
                        + list(m.getParameterTypes()) + ")");
            }
        }
        return seen;
    }

    private static String list(Class<?>[] types) {
        List<String> names = new ArrayList<>();
        for (Class<?> type : types) {
            names.add(type.toString());
        }
        return String.join(", ", names);
    }

    private static void noPrivateNamesake() {
        Set<String> names = new TreeSet<>();
        for (Member m : RuleRunner.class.getMethods()) {
            if (m.getDeclaringClass() == RuleRunner.class) {
                names.add(m.getName());
            }
        }
        List<Class<?>> classes = new ArrayList<>(List.of(RuleRunner.class.getDeclaredClasses()));
        classes.add(RuleRunner.class);
        for (Class<?> k : classes) {
            for (Member m : k.getDeclaredMethods()) {
                boolean namesake = names.contains(m.getName())
                        && !Modifier.isPublic(m.getModifiers());
                Checks.due("a namesake " + k + "." + m.getName(), namesake ? 1 : 0, 0);
            }
        }
    }
}

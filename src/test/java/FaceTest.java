import java.lang.reflect.Constructor;
import java.lang.reflect.Field;
import java.lang.reflect.Method;
import java.lang.reflect.Modifier;
import java.util.Set;
import java.util.TreeSet;

/** The class has the members that the document tells, and no other one that can be seen. */
public final class FaceTest {
    private static final Set<String> METHODS = new TreeSet<>(Set.of(
        "int begin(int)", "int object(int)", "int remove(int)", "int common(int)", "int extent(int)",
        "int closure(int)", "int next(int)", "int concepts()", "int concept(int,int)", "int base()",
        "int rule(int,int)", "int follows(int,int)", "int holds(int,int)", "int needed(int)",
        "int neededObject(int)", "int frequent(int)", "int ask()", "int question()", "int yes()",
        "int no(int)", "int accepted(int,int)", "int count(int)"));
    private static final Set<String> FIELDS = new TreeSet<>(Set.of("NONE", "BAD", "FULL", "AGAINST"));

    private static final Due due = new Due("FaceTest");

    public static void main(String[] args) {
        due.is("modifiers", ConceptTable.class.getModifiers(), Modifier.PUBLIC | Modifier.FINAL);
        due.is("NONE", ConceptTable.NONE, -1);
        due.is("BAD", ConceptTable.BAD, -2);
        due.is("FULL", ConceptTable.FULL, -3);
        due.is("AGAINST", ConceptTable.AGAINST, -4);
        methods();
        fields();
        constructors();
        due.end();
    }

    private static void methods() {
        Set<String> seen = new TreeSet<>();
        Set<String> names = new TreeSet<>();
        for (Method method : ConceptTable.class.getDeclaredMethods()) {
            if (method.isSynthetic() || Modifier.isPrivate(method.getModifiers())) {
                continue;
            }
            StringBuilder text = new StringBuilder();
            for (Class<?> type : method.getParameterTypes()) {
                text.append(text.length() == 0 ? "" : ",").append(type.getName());
            }
            seen.add(method.getReturnType().getName() + " " + method.getName() + "(" + text + ")");
            names.add(method.getName());
            due.is("modifiers of " + method, method.getModifiers(), Modifier.PUBLIC);
        }
        due.holds("the methods " + seen + " are " + METHODS, seen.equals(METHODS));
        for (Method method : ConceptTable.class.getDeclaredMethods()) {
            if (Modifier.isPrivate(method.getModifiers())) {
                due.holds("a name of its own for " + method, !names.contains(method.getName()));
            }
        }
    }

    private static void fields() {
        Set<String> seen = new TreeSet<>();
        for (Field field : ConceptTable.class.getDeclaredFields()) {
            boolean isStatic = Modifier.isStatic(field.getModifiers());
            due.holds("static and final: " + field, !isStatic || Modifier.isFinal(field.getModifiers()));
            if (!Modifier.isPrivate(field.getModifiers())) {
                seen.add(field.getName());
                due.is("modifiers of " + field, field.getModifiers(), Modifier.PUBLIC | Modifier.STATIC | Modifier.FINAL);
            }
        }
        due.holds("the fields " + seen + " are " + FIELDS, seen.equals(FIELDS));
    }

    private static void constructors() {
        Constructor<?>[] all = ConceptTable.class.getDeclaredConstructors();
        due.is("constructors", all.length, 1);
        due.is("its parameters", all[0].getParameterCount(), 0);
        due.is("its modifiers", all[0].getModifiers(), Modifier.PUBLIC);
    }
}

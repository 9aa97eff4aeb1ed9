import java.lang.reflect.Constructor;
import java.lang.reflect.Field;
import java.lang.reflect.Method;
import java.lang.reflect.Modifier;
import java.util.Arrays;
import java.util.TreeSet;

/** The face of the document, and the rules of LANGUAGE.md that can be seen from outside. */
public final class FaceTest {
    private static final String[] FACE = {
        "int add(int,int,int,int,int,int)", "int alter(int,int,int)", "int arrival(int,int,boolean)",
        "int at(int,int,int)", "int box(int,int,int)", "int cell(int,int,int)", "int changes(int,int,int,int)",
        "int check(int)", "int chip(int,int)", "int design()", "int draw(int)", "void drop(int,int)",
        "void end(int)", "int equal(int,int)", "int erase(int,int)", "boolean fails(int,int,boolean)",
        "boolean falsify(int,int,int)", "int fault()", "int faults(int,int)", "int feed(int,int,int,int,int)",
        "int found(int,int)", "int gate(int,int,int)", "int graph(int,int)", "int improve(int,int)",
        "boolean isThere(int,int)", "int library()", "int literal(int,int,int)", "int map(int,int)",
        "boolean move(int,int,int,int)", "int netOf(int,int,boolean)", "int never(int,int)",
        "int path(int,int,int)", "int pattern(int,int)", "int place(int,int)", "int play(int,int)",
        "int point(int,int)", "int proves(int,int)", "int reset(int)", "int restart(int)",
        "int root(int,int,boolean)", "int route(int,int)", "int routed(int,int,int)", "int run(int,int)",
        "boolean shows(int,int,int)", "int state(int)", "int suspect(int,int)", "int swept(int,int)", "int tape()",
        "int test(int,int)", "int tests(int)", "int violation(int,int,int)", "int wave(int,int,int,int,int)",
        "int wire(int,int)", "int witness(int)"};

    private static String form(Method m) {
        StringBuilder all = new StringBuilder(m.getReturnType().getName()).append(' ').append(m.getName()).append('(');
        for (Class<?> p : m.getParameterTypes()) {
            all.append(all.charAt(all.length() - 1) == '(' ? "" : ",").append(p.getName());
        }
        return all.append(')').toString();
    }

    public static void main(String[] args) {
        Check.same("public and final", Modifier.isPublic(ChipFlow.class.getModifiers())
                && Modifier.isFinal(ChipFlow.class.getModifiers()), true);
        Check.same("NONE", ChipFlow.NONE, -1);
        TreeSet<String> open = new TreeSet<>();
        for (Method m : ChipFlow.class.getDeclaredMethods()) {
            if (!Modifier.isPrivate(m.getModifiers()) && !m.isSynthetic()) {
                open.add(form(m));
            }
        }
        Check.same("methods", open.toString(), new TreeSet<>(Arrays.asList(FACE)).toString());
        for (Field f : ChipFlow.class.getDeclaredFields()) {
            Check.same(f.getName() + " is private", Modifier.isPrivate(f.getModifiers()), !f.getName().equals("NONE"));
        }
        Constructor<?>[] made = ChipFlow.class.getDeclaredConstructors();
        Check.same("constructors", made.length, 1);
        Check.same("constructor", made[0].getParameterCount(), 0);
        TreeSet<String> names = new TreeSet<>();
        for (Method m : ChipFlow.class.getDeclaredMethods()) {
            if (Modifier.isPublic(m.getModifiers())) {
                names.add(m.getName());
            }
        }
        for (Class<?> inner : ChipFlow.class.getDeclaredClasses()) {
            Check.same(inner + " is static", Modifier.isStatic(inner.getModifiers()), true);
            for (Method m : inner.getDeclaredMethods()) {
                Check.same(inner + " has a name of the face: " + m.getName(), names.contains(m.getName()), false);
                Check.same(m.getName() + " has seven parameters at most", m.getParameterCount() <= 7, true);
            }
            for (Field f : inner.getDeclaredFields()) {
                boolean fixed = !Modifier.isStatic(f.getModifiers()) || Modifier.isFinal(f.getModifiers());
                Check.same(inner + "." + f.getName() + " is final, if static", fixed, true);
            }
        }
        Check.finish("FaceTest");
    }
}

import java.lang.reflect.Constructor;
import java.lang.reflect.Field;
import java.lang.reflect.Method;
import java.lang.reflect.Modifier;
import java.util.Arrays;
import java.util.HashSet;
import java.util.Set;
import java.util.TreeSet;

/** The class shows the document's constants, constructor and methods, and no more (LANGUAGE.md, rule 1). */
public final class FaceTest {
    private static final String[] METHODS = {
        "int thing(int,int)", "int row(int,int)", "int makeCase()", "int is(int,int)", "int kinds(int)",
        "int worth(int,int)", "int date(int)", "int size(int,int)", "int write(int,int,int,long)",
        "long read(int,int,int)", "int hang(int,int,int,int)", "int at(int,int,int)", "int deep(int,int,int,int)",
        "int fill(int,int)", "int held(int)", "int innermost(int,int)", "int depth(int)", "int inside(int)",
        "int loan()", "int want(int,int,int)", "int leave(int)", "int back(int)", "int told(int,int)",
        "int van(int,int)", "int count(int)", "int clear()",
    };

    private static final Set<String> OF_READ =
            Set.of("java.lang.ClassCastException", "java.lang.ArrayIndexOutOfBoundsException");

    public static void main(String[] args) throws NoSuchFieldException {
        Check c = new Check("FaceTest");
        c.due("UNKNOWN", LoanCases.UNKNOWN, -1);
        c.due("OUTSIDE", LoanCases.OUTSIDE, -2);
        c.due("TURN", LoanCases.TURN, -3);
        c.due("FULL", LoanCases.FULL, -4);
        c.due("NONE", LoanCases.NONE, -5);

        Set<String> shown = new TreeSet<>();
        Set<String> publicNames = new HashSet<>();
        for (Method m : LoanCases.class.getDeclaredMethods()) {
            if (!Modifier.isPrivate(m.getModifiers())) {
                shown.add(signature(m));
                publicNames.add(m.getName());
                c.due(m.getName() + " is public and not static", m.getModifiers(), Modifier.PUBLIC);
                same(c, m.getName() + " throws", thrown(m), m.getName().equals("read") ? OF_READ : Set.of());
            }
        }
        same(c, "methods", shown, new TreeSet<>(Arrays.asList(METHODS)));
        for (Method m : LoanCases.class.getDeclaredMethods()) {
            if (Modifier.isPrivate(m.getModifiers())) {
                c.due("a private method named " + m.getName(), publicNames.contains(m.getName()) ? 1 : 0, 0);
            }
        }

        Set<String> fields = new TreeSet<>();
        for (Field f : LoanCases.class.getDeclaredFields()) {
            if (!Modifier.isPrivate(f.getModifiers())) {
                fields.add(f.getName());
            }
        }
        same(c, "fields", fields, new TreeSet<>(Arrays.asList("UNKNOWN", "OUTSIDE", "TURN", "FULL", "NONE")));

        for (String name : fields) {
            int constant = Modifier.PUBLIC | Modifier.STATIC | Modifier.FINAL;
            c.due(name + " is a public constant", LoanCases.class.getDeclaredField(name).getModifiers(), constant);
        }
        for (Class<?> inner : LoanCases.class.getDeclaredClasses()) {
            int modifiers = inner.getModifiers();
            c.due(inner + " is static", Modifier.isStatic(modifiers) ? 1 : 0, 1);
            c.due(inner + " is shown", modifiers & (Modifier.PUBLIC | Modifier.PROTECTED), 0);
        }

        Constructor<?>[] constructors = LoanCases.class.getDeclaredConstructors();
        c.due("constructors", constructors.length, 1);
        c.due("the constructor's parameters", constructors[0].getParameterCount(), 0);
        c.due("the constructor is public", constructors[0].getModifiers(), Modifier.PUBLIC);
        c.due("the class is public and final", LoanCases.class.getModifiers(), Modifier.PUBLIC | Modifier.FINAL);
        c.end();
    }

    private static String signature(Method m) {
        StringBuilder s = new StringBuilder(m.getReturnType().getName()).append(' ').append(m.getName()).append('(');
        for (Class<?> p : m.getParameterTypes()) {
            s.append(s.charAt(s.length() - 1) == '(' ? "" : ",").append(p.getName());
        }
        return s.append(')').toString();
    }

    private static Set<String> thrown(Method m) {
        Set<String> names = new TreeSet<>();
        for (Class<?> e : m.getExceptionTypes()) {
            names.add(e.getName());
        }
        return names;
    }

    private static void same(Check c, String what, Set<String> got, Set<String> want) {
        if (!got.equals(want)) {
            c.due(what + " " + got, 0, 1);
        }
    }
}

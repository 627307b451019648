import java.lang.reflect.Method;
import java.util.TreeMap;

/**
 * The boundary cases that the document names, each in a method of its own that answers a Story: pNN... are of promise
 * NN, terms... of the sentences that the promises lean on.
 */
public final class EdgesTest {
    private static final Class<?>[] EDGES = {
        ThingEdges.class, RowEdges.class, HangEdges.class, CaseEdges.class, LoanEdges.class, StoreEdges.class,
    };

    public static void main(String[] args) throws ReflectiveOperationException {
        Check check = new Check("EdgesTest");
        boolean[] tested = new boolean[28];
        int stories = 0;
        for (Class<?> edges : EDGES) {
            for (Method m : storiesOf(edges).values()) {
                ((Story) m.invoke(null)).end(edges.getName() + "." + m.getName(), check);
                stories++;
                if (m.getName().startsWith("p")) {
                    tested[Integer.parseInt(m.getName().substring(1, 3))] = true;
                }
            }
        }
        for (int promise = 1; promise <= 27; promise++) {
            check.due("promise " + promise + " has a test", tested[promise] ? 1 : 0, 1);
        }
        System.out.println(stories + " boundary cases");
        check.end();
    }

    private static TreeMap<String, Method> storiesOf(Class<?> edges) {
        TreeMap<String, Method> byName = new TreeMap<>();
        for (Method m : edges.getDeclaredMethods()) {
            if (m.getReturnType() == Story.class && m.getParameterCount() == 0) {
                byName.put(m.getName(), m);
            }
        }
        return byName;
    }
}

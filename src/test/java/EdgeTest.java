import java.lang.reflect.InvocationTargetException;
import java.lang.reflect.Method;
import java.util.Arrays;
import java.util.Comparator;
import java.util.List;
import java.util.Locale;

/**
 * Runs a test for each sentence of the document that names a boundary. Each test says which sentence it is for; one that
 * quotes words that do not stand there fails, and so does a boundary of the document that no test is for.
 */
public final class EdgeTest {
    private static final List<Class<?>> GROUPS = List.of(EdgesOfRules.class, EdgesOfTexts.class, EdgesOfChanges.class,
        EdgesOfThePool.class, EdgesOfLoans.class, EdgesOfThought.class, EdgesOfTheRest.class);

    public static void main(String[] args) throws Exception {
        Document document = new Document();
        int sentences = 0;
        for (Class<?> group : GROUPS) {
            Method[] tests = group.getDeclaredMethods();
            Arrays.sort(tests, Comparator.comparing(Method::getName));
            for (Method test : tests) {
                if (test.getName().matches("(promise|section|constants|whatItIs).*")) {
                    sentences++;
                    run(test, document);
                }
            }
        }
        Edge.CHECK.due("the number of boundaries without a test", document.tellUntested(), 0);
        System.out.println(sentences + " sentences, " + document.boundaries() + " boundaries in them");
        Edge.CHECK.end();
    }

    private static void run(Method test, Document document) throws Exception {
        Says says = test.getAnnotation(Says.class);
        boolean named = says != null && test.getName().startsWith(prefix(says.at()) + "_");
        Edge.CHECK.due(test.getName() + " bears the head that it says", named, true);
        if (says != null) {
            Edge.CHECK.due("the document says under " + says.at() + ": " + says.words(),
                document.mark(says.at(), says.words()), true);
        }
        try {
            test.setAccessible(true);
            test.invoke(null);
        } catch (InvocationTargetException e) {
            Edge.CHECK.due(test.getName() + " comes to its end", e.getCause(), "nothing thrown");
        }
    }

    private static String prefix(String head) {
        if (head.equals("What it is")) {
            return "whatItIs";
        }
        String[] parts = head.toLowerCase(Locale.ROOT).split(" ");
        return parts.length < 2 ? parts[0] : parts[0] + parts[1];
    }
}

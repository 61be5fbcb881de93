import java.lang.reflect.Method;
import java.util.ArrayList;
import java.util.List;

/** Holds the tests against the document: each edge that a sentence of it names is in the words that some test holds to. */
final class SentenceTests {
    private static final List<Class<? extends KneeTest>> TESTS =
        List.of(TermEdgeTests.class, TextEdgeTests.class, AskEdgeTests.class, PromiseEdgeTests.class);

    public static void main(String[] args) throws Exception {
        Suite suite = new Suite("SentenceTests");
        Document document = new Document();
        List<Says> said = new ArrayList<>();
        for (Class<? extends KneeTest> tests : TESTS) {
            for (Method m : Edges.of(tests, document)) said.add(m.getAnnotation(Says.class));
        }
        for (int i = 0; i <= Document.PROMISES; i++) {
            int promise = i;
            List<String> quotes = said.stream().filter(s -> s.promise() == promise).map(Says::value).toList();
            String section = promise == 0 ? "the parts I to V" : "promise " + promise;
            suite.run("each edge that " + section + " names has a test", () ->
                Suite.same("without a test", List.of(), document.notIn(promise, quotes)));
        }
        suite.close();
    }
}

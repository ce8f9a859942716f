import java.lang.reflect.InvocationTargetException;
import java.lang.reflect.Method;
import java.nio.file.Files;
import java.nio.file.Path;
import java.util.Arrays;
import java.util.Comparator;

/**
 * Runs every test that holds a sentence of the document, and looks whether each sentence of 'Terms' and of the
 * promises stands in one of them: a sentence that is new or other in the document has no test, and that is told.
 */
public final class EdgesTest {
    private static final Class<?>[] PARTS = {TermsEdges.class, TextEdges.class, WaterEdges.class, HandEdges.class,
        RefusedEdges.class, PromiseTextEdges.class, PromiseTickEdges.class, PromiseWeighsEdges.class,
        PromiseBubbleEdges.class, PromiseHandEdges.class, PromiseSeenEdges.class, PromiseSheetEdges.class};
    private static final String DOCUMENT = "../shared/DOC.md";
    private static final int PROMISES = 43;

    private final StringBuilder[] sections = new StringBuilder[PROMISES + 1];
    /** Of each section what no test holds. */
    private final StringBuilder[] left = new StringBuilder[PROMISES + 1];
    private int wrong = 0, tests = 0;

    public static void main(String[] args) throws Exception {
        EdgesTest all = new EdgesTest();
        all.readSections(Files.readString(Path.of(DOCUMENT)));
        for (Class<?> part : PARTS) all.runPart(part);
        all.tellRest();
        System.out.println(all.tests + " tests of sentences");
        if (all.wrong != 0) System.out.println(all.wrong + " of the sentences or tests are not as due");
        Check.close(all.wrong == 0);
    }

    private void fail(String what) {
        wrong++;
        System.out.println(what);
    }

    // ---- the document

    private void readSections(String document) {
        for (String section : document.split("\n## ")) {
            int line = section.indexOf('\n');
            String heading = line < 0 ? section : section.substring(0, line);
            String body = line < 0 ? "" : section.substring(line);
            if (heading.equals("Terms")) sections[Holds.TERMS] = bare(body.replaceAll("(?m)^Ahead of the calls .*$", ""));
            if (!heading.startsWith("Promise ")) continue;
            int number = Integer.parseInt(heading.substring(8, heading.indexOf(':')));
            sections[number] = bare(body.replaceFirst("^\\s*`[^`]*`:", ""));
        }
        for (int i = 0; i <= PROMISES; i++) left[i] = new StringBuilder(sections[i]);
    }

    private static StringBuilder bare(String body) {
        return new StringBuilder(body.replaceAll("```[a-z]*", "").replaceAll("\\s+", " "));
    }

    /** Puts blanks over a sentence that has a test, so that what is left has none. */
    private boolean strikeOut(StringBuilder left, String whole, String sentence) {
        int at = whole.indexOf(sentence);
        if (at < 0) return false;
        for (; at >= 0; at = whole.indexOf(sentence, at + 1)) {
            for (int i = 0; i < sentence.length(); i++) left.setCharAt(at + i, ' ');
        }
        return true;
    }

    private void tellRest() {
        for (int i = 0; i <= PROMISES; i++) {
            String rest = left[i].toString().replaceAll("[^A-Za-z0-9()]+", " ").trim();
            if (rest.matches(".*[A-Za-z].*")) fail("no test holds, of " + name(i) + ": " + rest);
        }
    }

    private static String name(int section) {
        return section == Holds.TERMS ? "Terms" : "promise " + section;
    }

    // ---- the tests

    private void runPart(Class<?> part) throws IllegalAccessException {
        Method[] methods = part.getDeclaredMethods();
        Arrays.sort(methods, Comparator.comparing(Method::getName));
        for (Method m : methods) {
            Holds h = m.getAnnotation(Holds.class);
            if (h != null) runTest(m, h);
        }
    }

    private void runTest(Method m, Holds h) throws IllegalAccessException {
        tests++;
        if (!strikeOut(left[h.in()], sections[h.in()].toString(), h.says())) {
            fail(m.getName() + ": the document does not say, in " + name(h.in()) + ": " + h.says());
        }
        Check.holds(name(h.in()) + ", \"" + h.says() + "\", " + m.getName());
        int before = Check.asked();
        try {
            m.invoke(null);
        } catch (InvocationTargetException e) {
            fail(m.getName() + " threw " + e.getCause());
        }
        if (Check.asked() == before) fail(m.getName() + " looks at no answer");
    }
}

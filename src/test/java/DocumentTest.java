import java.lang.reflect.Method;
import java.util.HashSet;
import java.util.Set;

/** Each part of the document has a test, so that none of its sentences is left out. */
public final class DocumentTest {
    public static void main(String[] args) throws ReflectiveOperationException {
        partsStandInOrder();
        headingsAreParts();
        partsHaveTests();
        Expect.end();
    }

    private static void partsStandInOrder() {
        String document = Part.document();
        int at = -1;
        for (Part part : Part.values()) {
            int found = document.indexOf(part.begin);
            Expect.holds(part + " stands behind the part before", found > at);
            at = found;
        }
    }

    private static void headingsAreParts() {
        Set<String> known = new HashSet<>();
        known.add("# ShaderMachine");
        known.add("## Terms");
        for (Part part : Part.values()) {
            known.add(part.begin);
        }
        for (String line : Part.document().split("\n")) {
            Expect.holds("a part: " + line, !line.startsWith("#") || known.contains(line.trim()));
        }
    }

    private static void partsHaveTests() throws ReflectiveOperationException {
        for (Part part : Part.values()) {
            if (!part.test.isEmpty()) {
                Method main = Class.forName(part.test).getMethod("main", String[].class);
                Expect.holds(part + " has the test " + part.test, main != null);
            }
        }
    }
}

import java.io.IOException;
import java.lang.reflect.Method;
import java.lang.reflect.Modifier;
import java.nio.file.Files;
import java.nio.file.Path;

/** What README.md says holds: its example is this one, line by line, and no call or test is left out of it. */
public final class ReadmeTest {
    private static final Path README = Path.of("README.md");
    private static final Path TESTS = Path.of("src/test/java");

    private final Check check = new Check("ReadmeTest");
    private final String readme;

    private ReadmeTest() throws IOException {
        readme = Files.readString(README);
    }

    private void example() {
        TimeNet net = new TimeNet();
        int master = net.add(0, 1, 0, 0);    // domain 0, class 1, variance 0, drift 0
        int slave = net.add(0, 2, 0, 0);
        net.link(slave, master, 7, 2);       // 7 from slave to master, 2 back
        net.setOffset(slave, 100);
        net.tick(1);
        check.due("parent", net.parent(slave), 0);
        check.due("port", net.port(slave, master), TimeNet.FOLLOWS);
        check.due("offset", net.offset(slave), 51);
        check.due("rate", net.rate(slave), -6);
        net.tell(slave, master, 5);          // the delays' difference spoils nothing from now on
        net.tick(50);
        check.due("spread", net.spread(0), 8);
        check.due("isSettled", net.isSettled(), true);
        check.thrown("link", IllegalStateException.class, () -> net.link(master, slave, 0, 0));
    }

    /** The example's calls stand in the order of README.md, whatever this test asks between them. */
    private void exampleIsThatOfTheReadme() throws IOException {
        String source = Files.readString(TESTS.resolve("ReadmeTest.java"));
        int begin = readme.indexOf("```java\n") + 8;
        String example = readme.substring(begin, readme.indexOf("```", begin));
        int at = source.indexOf("private void example()");
        for (String line : example.split("\n")) {
            String call = line.replaceAll("\\s*//.*", "").replaceAll(";$", "").trim();
            int found = source.indexOf(call, at);
            check.due("the example's line: " + line, found >= 0, true);
            at = Math.max(at, found);
        }
    }

    private void eachCallIsNamed() {
        for (Method method : TimeNet.class.getDeclaredMethods()) {
            if (Modifier.isPublic(method.getModifiers())) {
                check.due("names " + method.getName(), readme.contains("`" + method.getName() + "("), true);
            }
        }
    }

    private void eachTestIsNamed() {
        String[] files = TESTS.toFile().list();
        check.due("finds the tests", files != null, true);
        for (String file : files == null ? new String[0] : files) {
            if (file.endsWith("Test.java")) {
                String test = file.substring(0, file.length() - 5);
                check.due("names " + test, readme.contains("`" + test + "`"), true);
            }
        }
    }

    public static void main(String[] args) throws IOException {
        ReadmeTest test = new ReadmeTest();
        test.example();
        test.exampleIsThatOfTheReadme();
        test.eachCallIsNamed();
        test.eachTestIsNamed();
        test.check.end();
    }
}

import java.io.IOException;
import java.nio.file.Files;
import java.nio.file.Path;
import java.util.List;

/** The examples of README.md: each answers what stands behind it there, and stands here as it stands there. */
public final class ReadmeTest {
    private static final Check CHECK = new Check("ReadmeTest");

    public static void main(String[] args) throws IOException {
        program();
        fault();
        index();
        sameLines();
        CHECK.end();
    }

    private static void program() {
        NaturalMachine m = new NaturalMachine(1);
        m.store(0, 0x002a3177L, 4);
        m.store(4, 0x0004L, 2);
        m.start(0);
        int done = m.run(200);
        long r1 = m.register(1);
        int state = m.state();
        CHECK.due("done", done, 2);
        CHECK.due("r1", r1, 42);
        CHECK.due("state", state, NaturalMachine.DONE);
    }

    private static void fault() {
        NaturalMachine m = new NaturalMachine(0);
        m.store(0, 0x2110L, 2);
        m.setRegister(1, 7);
        m.start(0);
        int none = m.run(1);
        int why = m.fault();
        long where = m.ip();
        CHECK.due("none", none, 0);
        CHECK.due("why", why, NaturalMachine.DIVIDE);
        CHECK.due("where", where, 0);
        m.setRegister(2, 2);
        m.start((int) where);
        int kind = m.step();
        long quotient = m.register(1);
        CHECK.due("kind", kind, 16);
        CHECK.due("quotient", quotient, 3);
    }

    private static void index() {
        NaturalMachine wide = new NaturalMachine(1);
        NaturalMachine narrow = new NaturalMachine(0);
        long u = wide.index(0x1013, 16, 0);
        long c = wide.index(0x1013, 16, 1);
        long over8 = wide.index(0x1013, 16, 2);
        long over4 = narrow.index(0x1013, 16, 2);
        long back = narrow.index(0x9013, 16, 2);
        CHECK.due("u", u, 3);
        CHECK.due("c", c, 4);
        CHECK.due("over8", over8, 28);
        CHECK.due("over4", over4, 16);
        CHECK.due("back", back, -16);
    }

    /** So that nobody changes an example in README.md without its answers being looked at here. */
    private static void sameLines() throws IOException {
        String here = Files.readString(Path.of("src/test/java/ReadmeTest.java"));
        List<String> readme = Files.readAllLines(Path.of("README.md"));
        boolean inExample = false;
        int lines = 0;
        for (String line : readme) {
            if (line.startsWith("```")) {
                inExample = line.equals("```java");
            } else if (inExample && !line.isEmpty()) {
                String code = line.replaceFirst(" *//.*", "");
                CHECK.due("README.md's line stands here: " + code, here.contains("        " + code + "\n"), true);
                lines++;
            }
        }
        CHECK.due("README.md has examples", lines > 0, true);
    }
}

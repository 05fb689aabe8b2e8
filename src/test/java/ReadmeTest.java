import java.io.IOException;
import java.lang.reflect.Method;
import java.lang.reflect.Modifier;
import java.nio.file.Files;
import java.nio.file.Path;

/** What README.md says of the class is so. */
public final class ReadmeTest {
    private static final Checks C = new Checks();

    private static void example() {
        Kleroterion city = new Kleroterion();
        C.due("found(24, 0)", city.found(24, 0), 24);
        city.seat();
        C.due("there is a COUNCIL", city.council(0) > 0, true);
        C.due("there is a CHAIR", city.council(2) != -1, true);
        C.due("move(0, 0, 2, 5, 0)", city.move(0, 0, 2, 5, 0), 0);
        C.due("assembly()", city.assembly(), 1);
        C.due("the DECREE is on TOPIC 2", city.ofDecree(0, 1), 2);
        C.due("its LEAN", city.ofDecree(0, 2), 5);
        C.due("pass(1)", city.pass(1), 1);
        C.due("tell(11)", city.tell(11), "11 of 3: full chair");
    }

    /** The example that is run above is the one that stands in the text. */
    private static void text() throws IOException {
        String text = Files.readString(Path.of("README.md"));
        for (String line : new String[] {"city.found(24, 0);", "city.seat();", "city.move(0, 0, 2, 5, 0);",
            "city.assembly();                   // 1:", "city.pass(1);                      // the DAY is 1",
            "city.tell(11)); // 11 of 3: full chair"}) {
            C.due("README.md has " + line, text.contains(line), true);
        }
        for (Method one : Kleroterion.class.getDeclaredMethods()) {
            if (Modifier.isPublic(one.getModifiers())) {
                C.due("README.md names " + one.getName(), text.contains("`" + one.getName() + "`"), true);
            }
        }
    }

    public static void main(String[] args) throws IOException {
        example();
        text();
        C.end();
    }
}

import java.io.IOException;
import java.lang.reflect.Method;
import java.lang.reflect.Modifier;
import java.nio.file.Files;
import java.nio.file.Path;
import java.util.ArrayList;
import java.util.List;

/** What README.md says of the calls is what they answer. It is read from the folder of the project. */
public final class ReadmeTest {
    private static final String ROW_OF_A_CALL = "| `";
    private static final List<String> example = new ArrayList<>();
    private static int line;

    public static void main(String[] args) throws IOException {
        List<String> readme = Files.readAllLines(Path.of("README.md"));
        readExample(readme);
        runExample();
        everyCallHasARow(readme);
        Check.end();
    }

    private static void readExample(List<String> readme) {
        int first = readme.indexOf("```java") + 1;
        for (int i = first; i < readme.size() && !readme.get(i).equals("```"); i++) {
            example.add(readme.get(i));
        }
    }

    private static void runExample() {
        Check.of("README.md, the example");
        AddressClaimBus bus = new AddressClaimBus();
        next("AddressClaimBus bus = new AddressClaimBus();");
        answers("bus.start(0, 1L, 10);", bus.start(0, 1L, 10));
        answers("bus.start(1, 2L, 11);", bus.start(1, 2L, 11));
        answers("bus.waiting();", bus.waiting());
        next("while (bus.deliver(false)) { }");
        Frames.deliverAll(bus);
        answers("bus.noted(0, 1);", bus.noted(0, 1));
        answers("bus.tick(250);", bus.tick(250));
        answers("bus.state(0);", bus.state(0));
        answers("bus.send(0, 11, 70000, 30, 42L);", bus.send(0, 11, 70000, 30, 42L));
        answers("bus.outgoing(0);", bus.outgoing(0));
        next("while (bus.deliver(false)) { }");
        Frames.deliver(bus, 9);
        Check.due("waiting() after OPEN, GRANT, 3 packets, GRANT, 2 packets, DONE", bus.waiting(), 0);
        answers("bus.outgoing(0);", bus.outgoing(0));
        answers("bus.delivered(1);", bus.delivered(1));
        answers("bus.message(1, 2);", bus.message(1, 2));
        answers("bus.byteOf(1, 0);", bus.byteOf(1, 0));
        answers("bus.byteOf(1, 30);", bus.byteOf(1, 30));
        answers("bus.send(0, 10, 70000, 30, 42L);", bus.send(0, 10, 70000, 30, 42L));
        Check.due("lines of the example", example.size(), line);
    }

    /** The next line of the example has this call, and behind it the answer before a colon. */
    private static void answers(String call, Object answer) {
        String rest = next(call);
        Check.due(call + " // " + answer, rest.startsWith("// " + answer + ": "), true);
    }

    private static String next(String call) {
        String text = line < example.size() ? example.get(line) : "";
        line++;
        Check.due("line " + line + " of the example is " + call, text.startsWith(call), true);
        return text.startsWith(call) ? text.substring(call.length()).trim() : "";
    }

    private static void everyCallHasARow(List<String> readme) {
        Check.of("README.md, the table");
        for (Method method : AddressClaimBus.class.getDeclaredMethods()) {
            if (Modifier.isPublic(method.getModifiers())) {
                String head = ROW_OF_A_CALL + method.getName() + "(";
                Check.due("rows of " + method.getName(), rows(readme, head), 1);
            }
        }
        Check.due("rows", rows(readme, ROW_OF_A_CALL), 20);
    }

    private static long rows(List<String> readme, String head) {
        return readme.stream().filter(text -> text.startsWith(head)).count();
    }
}

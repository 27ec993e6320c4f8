import java.lang.reflect.Method;
import java.lang.reflect.Modifier;
import java.nio.file.Files;
import java.nio.file.Path;
import java.util.List;
import java.util.stream.Collectors;
import java.util.stream.Stream;

/** README.md says how to use the class: its example runs here, and no call or test is forgotten in it. */
public final class ReadmeTest {
    private static final Path README = Path.of("README.md"), TESTS = Path.of("src/test/java");

    public static void main(String[] args) throws Exception {
        String page = Files.readString(README);
        example();
        exampleIsTheSame(page);
        everyCallStandsThere(page);
        everyTestStandsThere(page);
        Check.end();
    }

    private static void example() {
        // the example begins
        ElbowQueue queue = new ElbowQueue();
        String text = "q1,4;f9,0;b5,0;pb6,0,2;"; // oranges, every 4th minute; a first one, a believer; a passer who needs 2
        for (int i = 0; i < text.length(); i++) {
            queue.feed(text.charAt(i));
        }
        int people = queue.town();          // 3, or -1000100 less the place of a fault
        int waiting = queue.minutes(2);     // 3: two minutes went by, the passer joined
        int heard = queue.person(1, 3);     // 1: the believer believes in oranges by now
        int lives = queue.lives();          // 10: in so many minutes nobody is there any more
        int when = queue.served(2, 0);      // 10: in so many minutes the passer is served
        int left = queue.go(0);             // 2: the first one goes
        int undone = queue.undo();          // 2: he is back, and two minutes can be undone yet
        int nobody = queue.place(7);        // ElbowQueue.NONE
        // the example ends
        Check.due("people", people, 3);
        Check.due("waiting", waiting, 3);
        Check.due("heard", heard, 1);
        Check.due("lives", lives, 10);
        Check.due("when", when, 10);
        Check.due("left", left, 2);
        Check.due("undone", undone, 2);
        Check.due("nobody", nobody, ElbowQueue.NONE);
    }

    private static void exampleIsTheSame(String page) throws Exception {
        List<String> here = between(Files.readString(TESTS.resolve("ReadmeTest.java")),
            "        // the example begins\n", "        // the example ends\n");
        List<String> there = between(page, "```java\n", "```\n");
        Check.isTrue("the page has an example", there.size() > 1);
        Check.isTrue("the page's example is the one that runs here", here.equals(there));
    }

    private static List<String> between(String text, String begin, String end) {
        int from = text.indexOf(begin) + begin.length();
        int till = text.indexOf(end, from);
        return text.substring(from, till).lines().map(String::strip).collect(Collectors.toList());
    }

    private static void everyCallStandsThere(String page) {
        for (Method method : ElbowQueue.class.getDeclaredMethods()) {
            if (Modifier.isPublic(method.getModifiers())) {
                Check.isTrue(method.getName() + " stands in the page", page.contains("`" + method.getName() + "("));
            }
        }
    }

    private static void everyTestStandsThere(String page) throws Exception {
        try (Stream<Path> files = Files.list(TESTS)) {
            for (Path file : files.filter(Files::isRegularFile).collect(Collectors.toList())) {
                Check.isTrue(file + " stands in the page", page.contains("`" + file + "`"));
            }
        }
    }
}

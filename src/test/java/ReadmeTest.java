import java.io.IOException;
import java.nio.file.Files;
import java.nio.file.Path;
import java.util.regex.Matcher;
import java.util.regex.Pattern;

/** The calls that README.md shows answer what it says, and it shows no others. */
public final class ReadmeTest {
    private static final Due due = new Due();
    private static final Path README = Path.of("README.md");

    private static String shown = "";
    private static int calls;

    public static void main(String[] args) throws IOException {
        String text = Files.readString(README);
        Matcher block = Pattern.compile("(?s)```java\n(.*?)```").matcher(text);
        shown = block.find() ? block.group(1) : "";
        BreakTime yard = new BreakTime();
        says("int ann = yard.child(107, 96, 1);", yard.child(107, 96, 1));
        says("int bob = yard.child(0, 99, 0);", yard.child(0, 99, 0));
        says("int game = yard.heap(2, 4);", yard.heap(2, 4));
        says("yard.join(bob, game);", yard.join(1, 0));
        says("yard.likes(bob, ann, 60);", yard.likes(1, 0, 60));
        says("yard.between(ann, game, 1);", yard.between(0, 0, 1));
        says("yard.sorrow(20);", yard.sorrow(20));
        says("yard.minutes(10);", yard.minutes(10));
        says("yard.heapIs(game, 3);", yard.heapIs(0, 3));
        says("yard.join(ann, 7);", yard.join(0, 7));
        says("yard.told(1);", yard.told(1));
        due.is("calls that README.md shows", shown.split("yard\\.", -1).length - 1, calls);
        due.holds("README.md names the one command", text.contains("\nbash .ci/run\n"));
        due.end();
    }

    private static void says(String call, int answer) {
        calls++;
        Matcher line = Pattern.compile("(?m)^" + Pattern.quote(call) + " +// (-?\\d+): ").matcher(shown);
        boolean found = line.find();
        due.holds("README.md shows " + call, found);
        if (found) {
            due.is(call, answer, Long.parseLong(line.group(1)));
        }
    }
}

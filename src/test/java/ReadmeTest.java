import java.io.IOException;
import java.lang.reflect.Method;
import java.lang.reflect.Modifier;
import java.nio.file.Files;
import java.nio.file.Path;
import java.util.ArrayList;
import java.util.Collections;
import java.util.HashMap;
import java.util.List;
import java.util.Map;
import java.util.regex.Matcher;
import java.util.regex.Pattern;

/** What README.md says of the calls: its examples answer so, and its table names each call once. */
public final class ReadmeTest extends Checks {
    private static final Pattern EXAMPLE = Pattern.compile("(?s)```java\n(.*?)```");
    private static final Pattern CALL =
        Pattern.compile("(?:int (\\w+) = )?x\\.(\\w+)\\(([^)]*)\\);\\s*// (-?\\d+): .+");
    private static final Pattern TABLE_ROW = Pattern.compile("(?m)^\\| [^|]+ \\| (`[^|]+`) \\|$");
    private static final Pattern NAME = Pattern.compile("`(\\w+)`");

    private static void examples(String page) {
        Matcher m = EXAMPLE.matcher(page);
        int examples = 0;
        while (m.find()) {
            example(m.group(1).split("\n"));
            examples++;
        }
        due("examples of the page", examples, 2);
    }

    private static void example(String[] lines) {
        if (!lines[0].equals("HillDance x = new HillDance();")) {
            fail("an example begins with a new object, not with: " + lines[0]);
        }
        HillDance x = new HillDance();
        Map<String, Integer> named = new HashMap<>();
        for (int i = 1; i < lines.length; i++) {
            Matcher m = CALL.matcher(lines[i]);
            if (!m.matches()) {
                fail("not a call with its answer: " + lines[i]);
                continue;
            }
            long answer = call(x, m.group(2), arguments(m.group(3), named));
            due(lines[i], answer, Long.parseLong(m.group(4)));
            if (m.group(1) != null) {
                named.put(m.group(1), (int) answer);
            }
        }
    }

    private static int[] arguments(String list, Map<String, Integer> named) {
        if (list.isEmpty()) {
            return new int[0];
        }
        String[] told = list.split(", ");
        int[] args = new int[told.length];
        for (int i = 0; i < told.length; i++) {
            Integer known = named.get(told[i]);
            args[i] = known != null ? known : Integer.decode(told[i]);
        }
        return args;
    }

    private static void table(String page) {
        List<String> told = new ArrayList<>();
        Matcher row = TABLE_ROW.matcher(page);
        while (row.find()) {
            Matcher name = NAME.matcher(row.group(1));
            while (name.find()) {
                told.add(name.group(1));
            }
        }
        List<String> calls = new ArrayList<>();
        for (Method m : HillDance.class.getDeclaredMethods()) {
            if (Modifier.isPublic(m.getModifiers())) {
                calls.add(m.getName());
            }
        }
        Collections.sort(told);
        Collections.sort(calls);
        if (!told.equals(calls)) {
            fail("the table names " + told + ", the calls are " + calls);
        }
    }

    public static void main(String[] args) throws IOException {
        String page = Files.readString(Path.of("README.md"));
        examples(page);
        table(page);
        end();
    }
}

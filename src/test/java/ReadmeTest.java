import java.io.IOException;
import java.nio.file.Files;
import java.nio.file.Path;
import java.util.HashMap;
import java.util.Map;
import java.util.regex.Matcher;
import java.util.regex.Pattern;

/** The example in README.md: each of its lines is made as a call, and answers what the line's comment begins with. */
public final class ReadmeTest {
    private static final Pattern LINE =
        Pattern.compile("(?:int (\\w+) = )?x\\.(\\w+)\\(([^)]*)\\);(?:\\s*// (-?\\d+).*)?");
    private static final int LEAST_CALLS = 15;

    private final FormulaLists lists = new FormulaLists();
    private final Map<String, Integer> names = new HashMap<>();
    private int calls = 0;
    private int wrong = 0;

    private int number(String word) {
        Integer named = names.get(word);
        return named != null ? named : Integer.parseInt(word);
    }

    private int answer(String call, String[] words) {
        switch (call) {
            case "atom": return lists.atom(number(words[0]), number(words[1]));
            case "script": return lists.script(number(words[0]), Boolean.parseBoolean(words[1]), number(words[2]));
            case "fraction": return lists.fraction(number(words[0]), number(words[1]), number(words[2]));
            case "fence": return lists.fence(number(words[0]), number(words[1]), number(words[2]));
            case "run": return lists.run(number(words[0]));
            case "item": return lists.item(number(words[0]), number(words[1]));
            default: throw new AssertionError("the test does not know this call: " + call);
        }
    }

    private void make(String line) {
        Matcher parts = LINE.matcher(line);
        if (!parts.matches()) {
            wrong++;
            System.out.println("not a call: " + line);
            return;
        }
        calls++;
        int got = answer(parts.group(2), parts.group(3).split(", "));
        if (parts.group(1) != null) {
            names.put(parts.group(1), got);
        }
        if (parts.group(4) != null && got != Integer.parseInt(parts.group(4))) {
            wrong++;
            System.out.println("answered " + got + ": " + line);
        }
    }

    private void makeAll(String readme) {
        int from = readme.indexOf("```java\n");
        int to = readme.indexOf("```", from + 3);
        String[] lines = from < 0 || to < 0 ? new String[0] : readme.substring(from, to).split("\n");
        for (int at = 1; at < lines.length; at++) {
            boolean isCall = !lines[at].isBlank() && !lines[at].startsWith("FormulaLists x = new ");
            if (isCall) {
                make(lines[at].strip());
            }
        }
        if (calls < LEAST_CALLS) {
            wrong++;
            System.out.println("the example has " + calls + " calls, due are " + LEAST_CALLS + " at least");
        }
    }

    public static void main(String[] args) throws IOException {
        ReadmeTest test = new ReadmeTest();
        test.makeAll(Files.readString(Path.of("README.md")));
        System.out.println(test.wrong == 0 ? "the example is as due" : test.wrong + " lines are not as due");
        if (test.wrong != 0) {
            System.exit(1);
        }
    }
}

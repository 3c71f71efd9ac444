import java.io.IOException;
import java.nio.file.Files;
import java.nio.file.Path;
import java.util.List;
import java.util.regex.MatchResult;
import java.util.regex.Matcher;
import java.util.regex.Pattern;

/** README.md: its runs of calls answer as it says, and it tells of the whole face and of the project's tests. */
public final class ReadmeTest {
    private static final Pattern NEW = Pattern.compile("AgreedSlots slots = new AgreedSlots\\(\\);");
    private static final Pattern TEXT = Pattern.compile("for \\(char c : \"(.*)\"\\.toCharArray\\(\\)\\) \\{");
    private static final Pattern CALL = Pattern.compile("slots\\.(\\w+)\\((.*)\\); +// (-?\\d+)\\b.*");
    private static final Pattern TYPING = Pattern.compile("    slots\\.type\\(c\\);|}");
    private static final Pattern ROW = Pattern.compile("\\| `(?:int )?(\\w+)\\(([^)]*)\\)` \\|.*");

    public static void main(String[] args) throws IOException {
        Due due = new Due("README.md");
        List<String> page = Files.readAllLines(Path.of("README.md"));
        runs(due, page);
        methods(due, page);
        constants(due, page);
        tests(due, page);
        due.end();
    }

    /** Each line of its java blocks is a call that is made here, with the answer that its comment begins with. */
    private static void runs(Due due, List<String> page) {
        AgreedSlots x = null;
        boolean java = false;
        int calls = 0;
        for (String line : page) {
            if (line.startsWith("```")) {
                java = line.equals("```java");
                continue;
            }
            Matcher text = TEXT.matcher(line);
            Matcher call = CALL.matcher(line);
            if (!java || TYPING.matcher(line).matches()) {
                continue;
            } else if (NEW.matcher(line).matches()) {
                x = new AgreedSlots();
            } else if (text.matches()) {
                Steps.write(x, text.group(1));
            } else if (call.matches()) {
                due.is(line, called(call.group(1)).on(x, numbers(call.group(2))), Integer.parseInt(call.group(3)));
                calls++;
            } else {
                due.holds("a line that is understood: " + line, false);
            }
        }
        due.holds("calls: " + calls, calls >= 30);
    }

    private static Call called(String name) {
        for (Call call : Call.values()) {
            if (call.name.equals(name)) {
                return call;
            }
        }
        throw new IllegalArgumentException(name);
    }

    private static int[] numbers(String arguments) {
        if (arguments.startsWith("'")) {
            return new int[] {arguments.charAt(1)};
        }
        String[] parts = arguments.isEmpty() ? new String[0] : arguments.split(", ");
        int[] n = new int[parts.length];
        for (int i = 0; i < n.length; i++) {
            n[i] = Integer.parseInt(parts[i]);
        }
        return n;
    }

    /** A row for each method of the face, in the document's order, with the errors that its promise names. */
    private static void methods(Due due, List<String> page) throws IOException {
        String document = Files.readString(Path.of("../shared/DOC.md"));
        StringBuilder rows = new StringBuilder();
        for (String line : page) {
            Matcher row = ROW.matcher(line);
            if (row.matches() && !row.group(1).equals("AgreedSlots")) {
                rows.append(row.group(1)).append(' ');
                due.holds(line, document.contains("public int " + row.group(1) + "(" + row.group(2) + ");"));
                Call call = called(row.group(1));
                for (String error : errors(document, call.name)) {
                    due.holds(error + " of " + call.name, line.substring(line.lastIndexOf(" | ")).contains(error));
                }
                due.is(call.name + " is an act", line.contains("| act: ") ? 1 : 0, call.act ? 1 : 0);
            }
        }
        StringBuilder face = new StringBuilder();
        Matcher method = Pattern.compile("    public int (\\w+)\\(").matcher(document);
        while (method.find()) {
            face.append(method.group(1)).append(' ');
        }
        due.holds("the face: " + rows, rows.toString().equals(face.toString()));
        due.holds("its constructor", page.stream().anyMatch(line -> line.startsWith("| `AgreedSlots()` |")));
    }

    private static List<String> errors(String document, String name) {
        int promise = document.indexOf("`int " + name + "(");
        int begin = document.indexOf("\nReturns ", promise);
        String returns = document.substring(begin, document.indexOf('\n', begin + 1));
        return Pattern.compile("\\b[A-Z_]{4,}\\b").matcher(returns).results().map(MatchResult::group).toList();
    }

    private static void constants(Due due, List<String> page) {
        String[] names = {"UNKNOWN", "BAD_VALUE", "FULL", "NOT_POSSIBLE", "NONE"};
        int[] numbers = {AgreedSlots.UNKNOWN, AgreedSlots.BAD_VALUE, AgreedSlots.FULL, AgreedSlots.NOT_POSSIBLE,
            AgreedSlots.NONE};
        for (int i = 0; i < names.length; i++) {
            String row = "| `" + names[i] + "` | " + numbers[i] + " | ";
            due.holds(row, page.stream().anyMatch(line -> line.startsWith(row)));
        }
    }

    private static void tests(Due due, List<String> page) throws IOException {
        try (var files = Files.list(Path.of("src/test/java"))) {
            for (Path file : files.toList()) {
                String name = file.getFileName().toString().replace(".java", "");
                boolean told = page.stream().anyMatch(line -> line.startsWith("| " + name + " |"));
                due.is(name + " is told of", told ? 1 : 0, name.endsWith("Test") ? 1 : 0);
            }
        }
    }
}

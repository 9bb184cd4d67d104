import java.io.IOException;
import java.nio.file.Files;
import java.nio.file.Path;
import java.util.ArrayList;
import java.util.List;
import java.util.regex.Matcher;
import java.util.regex.Pattern;

/** What README.md shows of the class's use is what the class answers. */
public final class ReadmeTest {
    private static final Pattern TYPED = Pattern.compile("type\\(x, \"(.*)\"\\);");
    private static final Pattern CALL = Pattern.compile("x\\.(\\w+)\\((.*)\\); +// (throws \\w+|'.'|-?\\w+)(: .*)?");
    private static final String PAGE = ": the page is ";
    private static final Due due = new Due();

    public static void main(String[] args) throws IOException {
        List<String> lines = Files.readAllLines(Path.of("README.md"));
        int calls = 0;
        for (String line : block(lines, "java")) {
            calls += followed(line) ? 1 : 0;
        }
        due.same("that the example has calls", calls > 0, true);
        List<String> documents = block(lines, "json");
        List<String> queries = block(lines, "text");
        due.same("how many documents the queries have", documents.size(), 1);
        due.same("that there are queries", queries.isEmpty(), false);
        for (String line : queries) {
            due.anew(documents.get(0));
            int gap = line.indexOf("  ");
            due.paths(line.substring(0, gap), line.substring(gap).strip());
        }
        due.end();
    }

    /** The lines of all blocks of that language. */
    private static List<String> block(List<String> lines, String language) {
        List<String> block = new ArrayList<>();
        boolean inside = false;
        for (String line : lines) {
            if (line.startsWith("```")) {
                inside = line.equals("```" + language);
            } else if (inside) {
                block.add(line);
            }
        }
        return block;
    }

    /** Does what the line of the example says; whether it was a call that tells its answer. */
    private static boolean followed(String line) {
        if (line.equals("SelectedNodes x = new SelectedNodes();")) {
            due.x = new SelectedNodes();
            return false;
        }
        Matcher typed = TYPED.matcher(line);
        if (typed.matches()) {
            due.type(typed.group(1).replace("\\\"", "\""));
            return false;
        }
        Matcher call = CALL.matcher(line);
        if (!call.matches()) {
            due.fail("README.md has a line that is no call: " + line);
            return false;
        }
        String want = call.group(3).equals("MANY") ? Integer.toString(SelectedNodes.MANY) : call.group(3);
        due.same(line, answer(call.group(1), call.group(2)), want);
        String words = call.group(4);
        if (words != null && words.startsWith(PAGE)) {
            due.same("the page behind " + line, due.page(), words.substring(PAGE.length()));
        }
        return true;
    }

    private static String answer(String name, String arguments) {
        try {
            return answerOf(due.x, name, arguments);
        } catch (RuntimeException e) {
            return "throws " + e.getClass().getSimpleName();
        }
    }

    /** The character that is written as 'c' or as (char) code. */
    private static char character(String written) {
        String code = "(char) ";
        return written.startsWith(code) ? (char) Integer.parseInt(written.substring(code.length())) : written.charAt(1);
    }

    private static String answerOf(SelectedNodes x, String name, String arguments) {
        switch (name) {
            case "type":
                return String.valueOf(x.type(character(arguments)));
            case "wipe":
                return String.valueOf(x.wipe());
            case "read":
                return String.valueOf(x.read());
            case "select":
                return String.valueOf(x.select());
            case "nodes":
                return String.valueOf(x.nodes());
            case "kind":
                return String.valueOf(x.kind(Integer.parseInt(arguments)));
            case "show":
                String[] two = arguments.split(", ");
                return String.valueOf(x.show(Integer.parseInt(two[0]), Integer.parseInt(two[1])));
            case "length":
                return String.valueOf(x.length());
            case "charAt":
                return "'" + x.charAt(Integer.parseInt(arguments)) + "'";
            default:
                return "no such call";
        }
    }
}

import java.util.Random;

/** The faults of promises 4 and 5 and of the terms, on many texts, against a recogniser of the grammar. */
public final class FaultTest {
    private static final int TEXTS = 4000;
    private static final String SIGNS = "$@.*[]{}()?:,!=<>&|\"'\\ -0123456789nulfalsetrength(count(value(_aZ~/";
    private static final Due due = new Due();
    private static int wellFormed = 0;

    public static void main(String[] args) {
        Random random = new Random(20261115);
        Grammar documents = Grammar.ofDocuments();
        Grammar queries = Grammar.ofQueries();
        for (int k = 0; k < TEXTS; k++) {
            compareDocument(documents, changed(documents.some(random), random, k % 4));
            compareQuery(queries, changed(queries.some(random), random, k % 4));
        }
        if (wellFormed < TEXTS / 8) {
            due.fail("only " + wellFormed + " texts had no fault");
        }
        due.end();
    }

    /** The text with some characters put in, taken out or changed. */
    private static String changed(String text, Random random, int changes) {
        StringBuilder made = new StringBuilder(text);
        for (int k = 0; k < changes; k++) {
            int at = random.nextInt(made.length() + 1);
            char c = SIGNS.charAt(random.nextInt(SIGNS.length()));
            int way = random.nextInt(3);
            if (way == 0 || at == made.length()) {
                made.insert(at, c);
            } else if (way == 1) {
                made.deleteCharAt(at);
            } else {
                made.setCharAt(at, c);
            }
        }
        made.setLength(Math.min(made.length(), 120));
        return made.toString();
    }

    private static void compareDocument(Grammar grammar, String text) {
        due.x = new SelectedNodes();
        int got = due.read(text);
        int want = grammar.fault(text);
        int fault = -1 - got;
        // Names that are the same are no matter of the grammar; ReadTest has them.
        boolean sameName = got < 0 && fault < text.length() && text.charAt(fault) == '"' && fault != want;
        if (!sameName) {
            compare(text, got, want);
        }
    }

    private static void compareQuery(Grammar grammar, String text) {
        due.anew("[]");
        int got = due.select(text);
        compare(text, got, grammar.fault(text));
    }

    private static void compare(String text, int got, int fault) {
        if (fault < 0) {
            wellFormed++;
            if (got < 0 && got != SelectedNodes.MANY) {
                due.fail(text + " answered " + got + ", but has no fault");
            }
        } else {
            due.same("the reading of " + text, got, -1 - fault);
        }
    }
}

import java.util.ArrayList;
import java.util.HashMap;
import java.util.HashSet;
import java.util.List;
import java.util.Map;
import java.util.Random;
import java.util.Set;

/**
 * A grammar written down as the document tells it, a recogniser for it that knows nothing of how the class
 * reads (Earley's), and texts made from it by chance. Every sign can be ended, so a text is a beginning as
 * long as its set of items is not empty.
 */
final class Grammar {
    private static final class Rule {
        final String head;
        final String[] body;

        Rule(String head, String[] body) {
            this.head = head;
            this.body = body;
        }
    }

    private record Item(Rule rule, int dot, int origin) {
        String next() {
            return dot < rule.body.length ? rule.body[dot] : null;
        }
    }

    private final Map<String, List<Rule>> rules = new HashMap<>();
    private final Set<String> nullable = new HashSet<>();
    private final String start;

    private Grammar(String start) {
        this.start = start;
    }

    /** One alternative: words are names of rules, or 'x...' for characters, or ~ followed by a class's letter. */
    private void rule(String head, String body) {
        List<String> parts = new ArrayList<>();
        for (String word : body.isEmpty() ? new String[0] : body.split(" ")) {
            if (word.startsWith("'")) {
                for (int k = 1; k < word.length(); k++) {
                    parts.add("'" + word.charAt(k));
                }
            } else {
                parts.add(word);
            }
        }
        rules.computeIfAbsent(head, h -> new ArrayList<>()).add(new Rule(head, parts.toArray(new String[0])));
    }

    private void rule(String head, String... bodies) {
        for (String body : bodies) {
            rule(head, body);
        }
    }

    private void findNullable() {
        boolean grown = true;
        while (grown) {
            grown = false;
            for (List<Rule> alternatives : rules.values()) {
                for (Rule rule : alternatives) {
                    boolean all = true;
                    for (String part : rule.body) {
                        all &= nullable.contains(part);
                    }
                    grown |= all && nullable.add(rule.head);
                }
            }
        }
    }

    private static boolean fits(String terminal, char c) {
        if (terminal.startsWith("'")) {
            return terminal.charAt(1) == c;
        }
        switch (terminal.charAt(1)) {
            case 's': return c == ' ';
            case 'd': return c >= '0' && c <= '9';
            case 'p': return c >= '1' && c <= '9';
            case 'w': return c >= 'a' && c <= 'z' || c >= 'A' && c <= 'Z' || c == '_';
            case 'Q': return c >= 32 && c <= 126 && c != '"' && c != '\\';
            case 'q': return c >= 32 && c <= 126 && c != '\'' && c != '\\';
            case 'E': return "\"\\/bfnrt".indexOf(c) >= 0;
            case 'e': return "'\\/bfnrt".indexOf(c) >= 0;
            default: throw new IllegalArgumentException(terminal);
        }
    }

    private static boolean isTerminal(String part) {
        return part.startsWith("'") || part.startsWith("~");
    }

    private void close(List<List<Item>> sets, int at) {
        List<Item> set = sets.get(at);
        Set<Item> seen = new HashSet<>(set);
        for (int k = 0; k < set.size(); k++) {
            Item item = set.get(k);
            String next = item.next();
            List<Item> more = new ArrayList<>();
            if (next == null) {
                for (Item waiting : new ArrayList<>(sets.get(item.origin))) {
                    if (item.rule.head.equals(waiting.next())) {
                        more.add(new Item(waiting.rule, waiting.dot + 1, waiting.origin));
                    }
                }
            } else if (!isTerminal(next)) {
                for (Rule rule : rules.get(next)) {
                    more.add(new Item(rule, 0, at));
                }
                if (nullable.contains(next)) {
                    more.add(new Item(item.rule, item.dot + 1, item.origin));
                }
            }
            for (Item one : more) {
                if (seen.add(one)) {
                    set.add(one);
                }
            }
        }
    }

    /** The fault of a text; -1 when it has none. */
    int fault(String text) {
        List<List<Item>> sets = new ArrayList<>();
        List<Item> first = new ArrayList<>();
        for (Rule rule : rules.get(start)) {
            first.add(new Item(rule, 0, 0));
        }
        sets.add(first);
        close(sets, 0);
        for (int p = 0; p < text.length(); p++) {
            List<Item> after = new ArrayList<>();
            for (Item item : sets.get(p)) {
                String next = item.next();
                if (next != null && isTerminal(next) && fits(next, text.charAt(p))) {
                    after.add(new Item(item.rule, item.dot + 1, item.origin));
                }
            }
            if (after.isEmpty()) {
                return p;
            }
            sets.add(after);
            close(sets, p + 1);
        }
        for (Item item : sets.get(text.length())) {
            if (item.origin == 0 && item.next() == null && item.rule.head.equals(start)) {
                return -1;
            }
        }
        return text.length();
    }

    /** A text of the grammar, made by chance; cut where it gets too long. */
    String some(Random random) {
        StringBuilder made = new StringBuilder();
        make(start, random, made, 0);
        made.setLength(Math.min(made.length(), 120));
        return made.toString();
    }

    private void make(String part, Random random, StringBuilder made, int depth) {
        if (made.length() > 130) {
            return;
        }
        if (part.startsWith("'")) {
            made.append(part.charAt(1));
            return;
        }
        if (part.startsWith("~")) {
            String likely = " 019azAZ_\"'\\/bfnrt~$@[";
            char c = likely.charAt(random.nextInt(likely.length()));
            while (!fits(part, c)) {
                c = (char) (32 + random.nextInt(95));
            }
            made.append(c);
            return;
        }
        List<Rule> alternatives = rules.get(part);
        Rule rule = alternatives.get(random.nextInt(alternatives.size()));
        for (String inner : rule.body) {
            make(inner, random, made, depth + 1);
        }
    }

    private void addSpelled() {
        rule("number", "sign whole", "sign whole '. ~d", "sign whole '. ~d ~d", "sign whole '. ~d ~d ~d");
        rule("sign", "", "'-");
        rule("whole", "'0", "~p", "~p ~d", "~p ~d ~d", "~p ~d ~d ~d", "~p ~d ~d ~d ~d", "~p ~d ~d ~d ~d ~d",
            "~p ~d ~d ~d ~d ~d ~d", "~p ~d ~d ~d ~d ~d ~d ~d", "~p ~d ~d ~d ~d ~d ~d ~d ~d");
        rule("string", "'\" characters '\"");
        rule("characters", "", "character characters");
        rule("character", "~Q", "~Q", "~Q", "'\\ ~E");
    }

    /** Documents, but for names that are the same. */
    static Grammar ofDocuments() {
        Grammar g = new Grammar("document");
        g.addSpelled();
        g.rule("document", "spaces value1 spaces");
        g.rule("spaces", "", "", "", "~s spaces");
        for (int d = 1; d <= 6; d++) {
            String value = "value" + d;
            g.rule(value, "'null", "'false", "'true", "number", "string", "'[ spaces ']", "'{ spaces '}");
            if (d < 6) {
                int e = d + 1;
                g.rule(value, "'[ spaces items" + e + " spaces ']", "'[ spaces items" + e + " spaces ']");
                g.rule(value, "'{ spaces members" + e + " spaces '}", "'{ spaces members" + e + " spaces '}");
                g.rule("items" + e, "value" + e, "value" + e + " spaces ', spaces items" + e);
                g.rule("member" + e, "string spaces ': spaces value" + e);
                g.rule("members" + e, "member" + e, "member" + e + " spaces ', spaces members" + e);
            }
        }
        g.findNullable();
        return g;
    }

    static Grammar ofQueries() {
        Grammar g = new Grammar("query");
        g.addSpelled();
        g.rule("query", "'$ segments0");
        g.rule("word", "~w", "~w", "~w wordRest");
        g.rule("wordRest", "~w", "~d", "~w wordRest", "~d wordRest");
        g.rule("quoted", "string", "'' singleCharacters ''");
        g.rule("singleCharacters", "", "singleCharacter singleCharacters");
        g.rule("singleCharacter", "~q", "~q", "~q", "'\\ ~e");
        g.rule("place", "'0", "sign ~p", "sign ~p ~d", "sign ~p ~d ~d");
        g.rule("maybePlace", "", "place");
        g.rule("slice", "maybePlace ': maybePlace", "maybePlace ': maybePlace ': maybePlace");
        g.rule("single", "'$ singleSegments", "'@ singleSegments");
        g.rule("singleSegments", "", "singleSegment singleSegments");
        g.rule("singleSegment", "'. word", "'[ quoted ']", "'[ place ']");
        g.rule("compared", "'==", "'!=", "'<", "'<=", "'>", "'>=");
        for (int d = 0; d <= 4; d++) {
            g.rule("segments" + d, "", "segment" + d + " segments" + d);
            g.rule("segment" + d, "'. word", "'.*", "'.. word", "'..*", "bracket" + d, "'.. bracket" + d);
            g.rule("segment" + d, "bracket" + d, "bracket" + d);
            g.rule("bracket" + d, "'[ selectors" + d + " ']");
            g.rule("selectors" + d, "selector" + d, "selector" + d, "selector" + d + " ', selectors" + d);
            g.rule("selector" + d, "'*", "quoted", "place", "slice");
            if (d < 4) {
                int e = d + 1;
                g.rule("selector" + d, "'? condition" + e, "'? condition" + e, "'? condition" + e);
                g.rule("basic" + d, "'( condition" + e + " ')", "'!( condition" + e + " ')");
            }
            g.rule("test" + d, "'$ segments" + d, "'@ segments" + d);
            g.rule("condition" + d, "and" + d, "and" + d, "and" + d + " '|| condition" + d);
            g.rule("and" + d, "basic" + d, "basic" + d, "basic" + d + " '&& and" + d);
            g.rule("basic" + d, "test" + d, "'! test" + d, "operand" + d + " compared operand" + d);
            g.rule("operand" + d, "'null", "'false", "'true", "number", "quoted", "single", "single");
            g.rule("operand" + d, "'length( operand" + d + " ')", "'count( test" + d + " ')", "'value( test" + d + " ')");
        }
        g.findNullable();
        return g;
    }
}

/** The boundary cases of promises 1 to 10: each sentence has a method of its own. */
public final class CallBoundaryTest {
    private static final int MANY = -200;
    private static final String OUTSIDE = "IndexOutOfBoundsException";
    private static final String WRONG = "IllegalArgumentException";
    private static final String NO_DOCUMENT = "IllegalStateException";
    private static final Due due = new Due();

    public static void main(String[] args) {
        newObject();
        objectsOfTheirOwn();
        typedCodes();
        typedCodesPutNothing();
        fullText();
        fullTextStays();
        roomAgain();
        wipeOfAText();
        wipeOfNoText();
        wipeLeavesTheRest();
        readEmptiesTheText();
        readPicksNothing();
        readCounts();
        readWithAFault();
        readWithAFaultAtFirst();
        selectEmptiesTheText();
        selectCounts();
        selectWithAFault();
        selectOfTooMany();
        selectWithoutADocument();
        nodesPicked();
        kinds();
        kindOfNoNode();
        showWritesInsteadOfWhatWasThere();
        showOfNoNode();
        showOfNeither();
        firstExceptionWins();
        nothingElseChangesThePage();
        thrownCallsChangeNothing();
        askingChangesNothing();
        lengths();
        charactersOfThePage();
        noSuchCharacter();
        callsOfAnObject();
        due.end();
    }

    private static void fresh() {
        due.x = new SelectedNodes();
    }

    /** A document of three items, of which the last two are picked, with the path of the second on the page. */
    private static void prepare() {
        fresh();
        due.same("read()", due.read("[5,6,7]"), 4);
        due.same("select()", due.select("$[1,2]"), 2);
        due.same("show(0, 0)", due.x.show(0, 0), 4);
    }

    /** All that prepare made is still so. */
    private static void stays(String behind) {
        due.same("nodes() behind " + behind, due.x.nodes(), 2);
        due.same("the page behind " + behind, due.page(), "$[1]");
        due.same("the text behind " + behind, due.x.wipe(), 0);
        due.same("show(0, 0) behind " + behind, due.shown(0, 0), "$[1]");
        due.same("show(1, 0) behind " + behind, due.shown(1, 0), "$[2]");
        due.same("show(1, 1) behind " + behind, due.shown(1, 1), "7");
        due.same("select() behind " + behind, due.select("$"), 1);
        due.same("the document behind " + behind, due.shown(0, 1), "[5,6,7]");
    }

    private static void newObject() {
        due.sentence("No text, no document, nothing is picked; the page is empty.");
        fresh();
        due.same("wipe()", due.x.wipe(), 0);
        fresh();
        due.same("read()", due.x.read(), -1);
        fresh();
        due.same("select()", due.thrownBySelect(), NO_DOCUMENT);
        fresh();
        due.same("nodes()", due.x.nodes(), 0);
        due.same("kind(0)", due.thrownByKind(0), OUTSIDE);
        due.same("show(0, 0)", due.thrownByShow(0, 0), OUTSIDE);
        due.same("length()", due.x.length(), 0);
        due.same("charAt(0)", due.x.charAt(0), ' ');
    }

    private static void objectsOfTheirOwn() {
        due.sentence("A new object: No text, no document, nothing is picked; the page is empty (whatever others hold).");
        prepare();
        due.type("$[0]");
        SelectedNodes first = due.x;
        newObject();
        due.x = first;
        due.same("the first object's text", due.x.select(), 1);
        due.same("the first object's page", due.page(), "$[1]");
    }

    private static void typedCodes() {
        due.sentence("true; false when c is not 32 .. 126");
        int[] taken = {32, 33, 65, 125, 126};
        int[] refused = {0, 8, 9, 10, 13, 31, 127, 128, 160, 255, 256, 256 + 32, 256 + 65, 32767, 32768, 65535};
        for (int c : taken) {
            fresh();
            due.same("type of code " + c, due.x.type((char) c), true);
            due.same("wipe()", due.x.wipe(), 1);
        }
        for (int c : refused) {
            fresh();
            due.same("type of code " + c, due.x.type((char) c), false);
            due.same("wipe()", due.x.wipe(), 0);
        }
    }

    private static void typedCodesPutNothing() {
        due.sentence("Appends a character to the text: true; false (and nothing is appended)");
        fresh();
        int[] refused = {31, 127, 0, 65535};
        for (char c : "\"a ~\"".toCharArray()) {
            due.same("type of " + c, due.x.type(c), true);
            for (int wrong : refused) {
                due.same("type of code " + wrong, due.x.type((char) wrong), false);
            }
        }
        due.same("read()", due.x.read(), 1);
        due.type("$");
        due.x.type((char) 127);
        due.same("select()", due.x.select(), 1);
        due.same("the string", due.shown(0, 1), "\"a ~\"");
    }

    private static void fullText() {
        due.sentence("or there are 120");
        fresh();
        for (int k = 1; k <= 120; k++) {
            due.same("type of character " + k, due.x.type(k % 2 == 0 ? ' ' : '~'), true);
        }
        for (char c : " ~a1\"]".toCharArray()) {
            due.same("type of character 121", due.x.type(c), false);
        }
        due.same("type of character 121, of no code that is taken", due.x.type((char) 7), false);
        due.same("wipe()", due.x.wipe(), 120);
    }

    private static void fullTextStays() {
        due.sentence("or there are 120 (and the 120 stay)");
        fresh();
        due.type("\"" + "a".repeat(117) + "z\"");
        due.same("type of character 121", due.x.type('x'), false);
        due.same("type of character 121 again", due.x.type(' '), false);
        due.same("read()", due.x.read(), 1);
        due.select("$");
        due.same("show(0, 1)", due.x.show(0, 1), 120);
        due.same("charAt(0)", due.x.charAt(0), '"');
        due.same("charAt(117)", due.x.charAt(117), 'a');
        due.same("charAt(118)", due.x.charAt(118), 'z');
        due.same("charAt(119)", due.x.charAt(119), '"');
    }

    private static void roomAgain() {
        due.sentence("there are 120: those of the text, which wipe, read and select empty");
        fresh();
        due.type("1" + " ".repeat(119));
        due.same("type", due.x.type('1'), false);
        due.same("wipe()", due.x.wipe(), 120);
        due.type("1" + " ".repeat(119));
        due.same("type", due.x.type('1'), false);
        due.same("read()", due.x.read(), 1);
        due.type("$" + ".a".repeat(59) + ".");
        due.same("type", due.x.type('a'), false);
        due.same("select()", due.x.select(), -121);
        due.type("1" + " ".repeat(118));
        due.same("type of character 120", due.x.type('1'), true);
        due.same("type of character 121", due.x.type('1'), false);
    }

    private static void wipeOfAText() {
        due.sentence("The text is empty; how many characters it had.");
        for (int size : new int[] {1, 2, 119, 120}) {
            fresh();
            due.type("1".repeat(size));
            due.same("wipe() of " + size, due.x.wipe(), size);
            due.same("wipe() again", due.x.wipe(), 0);
            due.same("read() behind it", due.x.read(), -1);
        }
        fresh();
        due.type("[1,2");
        due.x.wipe();
        due.same("read() of what is typed behind a wipe", due.read("[3]"), 2);
    }

    private static void wipeOfNoText() {
        due.sentence("The text is empty; how many characters it had (none).");
        fresh();
        due.same("wipe()", due.x.wipe(), 0);
        due.same("wipe()", due.x.wipe(), 0);
        due.same("type", due.x.type('1'), true);
        due.same("wipe()", due.x.wipe(), 1);
        due.same("read()", due.read("1"), 1);
        due.same("wipe() behind read()", due.x.wipe(), 0);
        due.same("select()", due.select("$"), 1);
        due.same("wipe() behind select()", due.x.wipe(), 0);
        due.same("nodes()", due.x.nodes(), 1);
    }

    private static void wipeLeavesTheRest() {
        due.sentence("wipe: The text is empty (and nothing else changes)");
        prepare();
        due.type("$[0]");
        due.same("wipe()", due.x.wipe(), 4);
        stays("wipe()");
        prepare();
        due.same("wipe()", due.x.wipe(), 0);
        stays("wipe() of no text");
    }

    private static void readEmptiesTheText() {
        due.sentence("Reads the text, which is empty then");
        for (String text : new String[] {"[1]", "", "x", "[1", "1" + " ".repeat(119), " ".repeat(120)}) {
            fresh();
            due.read(text);
            due.same("wipe() behind read() of " + text, due.x.wipe(), 0);
            due.same("read() of the next text", due.read("[2]"), 2);
        }
    }

    private static void readPicksNothing() {
        due.sentence("as a document, which is the document from then on; nothing is picked");
        prepare();
        due.same("read()", due.read("{\"a\":8}"), 2);
        due.same("nodes()", due.x.nodes(), 0);
        due.same("kind(0)", due.thrownByKind(0), OUTSIDE);
        due.same("show(0, 0)", due.thrownByShow(0, 0), OUTSIDE);
        due.same("the page", due.page(), "$[1]");
        due.same("select() of the old document's items", due.select("$[*]"), 1);
        due.same("the new document", due.shown(0, 0), "$['a']");
        prepare();
        due.same("read() of the same document", due.read("[5,6,7]"), 4);
        due.same("nodes()", due.x.nodes(), 0);
    }

    private static void readCounts() {
        due.sentence("Answers how many values it has, all in all.");
        due.document("0", 1);
        due.document("[]", 1);
        due.document("{}", 1);
        due.document("[[]]", 2);
        due.document("{\"a\":{}}", 2);
        due.document("[" + "0,".repeat(58) + "0]", 60);
        due.document("[[0,0],{\"a\":[0],\"b\":0},null]", 9);
        fresh();
        due.same("read()", due.read("[0,0]"), 3);
        due.same("read() again", due.read("[0,0]"), 3);
        due.same("read() of a fault", due.read("[0,0,0,"), -8);
        due.same("read() behind it", due.read("0"), 1);
    }

    private static void readWithAFault() {
        due.sentence("With a fault p it answers -1 - p; the document and what is picked stay.");
        String[] faulty = {"", "x", "[1,2,3", "[1,2,3]]", "{\"a\":1,\"a\":2}", "[[[[[[[", " ".repeat(120)};
        int[] faults = {0, 0, 6, 7, 9, 6, 120};
        for (int k = 0; k < faulty.length; k++) {
            prepare();
            due.same("read() of " + faulty[k], due.read(faulty[k]), -1 - faults[k]);
            stays("read() of " + faulty[k]);
        }
    }

    private static void readWithAFaultAtFirst() {
        due.sentence("With a fault p it answers -1 - p; the document .. stay (none stays none)");
        fresh();
        due.same("read()", due.read("[1"), -3);
        due.type("$");
        due.same("select()", due.thrownBySelect(), NO_DOCUMENT);
        due.same("wipe()", due.x.wipe(), 1);
        due.same("nodes()", due.x.nodes(), 0);
        due.same("length()", due.x.length(), 0);
    }

    private static void selectEmptiesTheText() {
        due.sentence("(The text is empty in all these cases.)");
        String[] queries = {"$", "$[9]", "$[", "", "x", "$[*,*,*,*,*,*,*,*,*,*,*,*,*,*]"};
        int[] answers = {1, 0, -3, -1, -1, MANY};
        for (int k = 0; k < queries.length; k++) {
            prepare();
            due.same("select() of " + queries[k], due.select(queries[k]), answers[k]);
            due.same("wipe() behind it", due.x.wipe(), 0);
            due.same("the next select()", due.select("$[*]"), 3);
        }
    }

    private static void selectCounts() {
        due.sentence("picks the nodes that it gives. Answers how many");
        prepare();
        due.same("select()", due.select("$[*]"), 3);
        due.same("nodes()", due.x.nodes(), 3);
        due.same("show(2, 0)", due.shown(2, 0), "$[2]");
        due.same("select() of fewer", due.select("$[0]"), 1);
        due.same("nodes()", due.x.nodes(), 1);
        due.same("kind(1)", due.thrownByKind(1), OUTSIDE);
        due.same("show(0, 0)", due.shown(0, 0), "$[0]");
        due.same("select() of none", due.select("$[3]"), 0);
        due.same("nodes()", due.x.nodes(), 0);
        due.same("kind(0)", due.thrownByKind(0), OUTSIDE);
        due.same("select() of the same node twice", due.select("$[1,1]"), 2);
        due.same("show(1, 0)", due.shown(1, 0), "$[1]");
    }

    private static void selectWithAFault() {
        due.sentence("-1 - p with a fault p .. what was picked staying.");
        String[] faulty = {"", "x", "$[0", "$[0]]", "$[?@==1||", "$[" + "0,".repeat(59), "$[" + "0,".repeat(40) + "0]x"};
        int[] faults = {0, 0, 3, 4, 9, 120, 84};
        for (int k = 0; k < faulty.length; k++) {
            prepare();
            due.same("select() of " + faulty[k], due.select(faulty[k]), -1 - faults[k]);
            stays("select() of " + faulty[k]);
        }
    }

    private static void selectOfTooMany() {
        due.sentence("or MANY, what was picked staying.");
        due.same("MANY", SelectedNodes.MANY, MANY);
        due.same("NONE", SelectedNodes.NONE, -1);
        String[] queries = {"$[*,*,*,*,*,*,*,*,*,*,*,*,*,0,1]", "$[*,*,*,*,*,*,*,*,*,*,*,*,*,*].a",
            "$[?$[*,*,*,*,*,*,*,*,*,*,*,*,*,*]]", "$[0,?count($[*,*,*,*,*,*,*,*,*,*,*,*,*,*])==1]"};
        for (String query : queries) {
            prepare();
            due.same("select() of " + query, due.select(query), MANY);
            stays("select() of " + query);
        }
        prepare();
        due.same("select() of 40", due.select("$[*,*,*,*,*,*,*,*,*,*,*,*,*,0]"), 40);
        due.same("nodes()", due.x.nodes(), 40);
        due.same("select() of 41", due.select("$[*,*,*,*,*,*,*,*,*,*,*,*,*,0,0]"), MANY);
        due.same("nodes()", due.x.nodes(), 40);
        due.same("show(39, 0)", due.shown(39, 0), "$[0]");
    }

    private static void selectWithoutADocument() {
        due.sentence("IllegalState: there is no document (the text stays).");
        for (String text : new String[] {"", "$", "[5,6]", "x", "1" + " ".repeat(119)}) {
            fresh();
            due.type(text);
            due.same("select() of " + text, due.thrownBySelect(), NO_DOCUMENT);
            due.same("select() of " + text + " again", due.thrownBySelect(), NO_DOCUMENT);
            due.same("wipe()", due.x.wipe(), text.length());
        }
        fresh();
        due.type("[5,");
        due.same("select()", due.thrownBySelect(), NO_DOCUMENT);
        due.type("6]");
        due.same("read() of the text that stayed", due.x.read(), 3);
        due.same("select() with a document", due.select("$"), 1);
    }

    private static void nodesPicked() {
        due.sentence("How many nodes are picked.");
        due.anew("[" + "0,".repeat(40) + "0]");
        due.same("nodes(), none", due.x.nodes(), 0);
        due.same("select()", due.select("$[0]"), 1);
        due.same("nodes(), one", due.x.nodes(), 1);
        due.same("select()", due.select("$[1:]"), 40);
        due.same("nodes(), 40", due.x.nodes(), 40);
        due.same("select()", due.select("$[*]"), MANY);
        due.same("nodes(), 40 still", due.x.nodes(), 40);
        due.same("nodes() again", due.x.nodes(), 40);
        due.same("select()", due.select("$.a"), 0);
        due.same("nodes(), none again", due.x.nodes(), 0);
    }

    private static void kinds() {
        due.sentence("0 null, 1 false, 2 true, 3 a number, 4 a string, 5 an array, 6 an object");
        due.anew("[null,false,true,-0,\"\",[],{}]");
        due.select("$[*]");
        for (int i = 0; i < 7; i++) {
            due.same("kind(" + i + ")", due.x.kind(i), i);
        }
        due.select("$[::-1]");
        for (int i = 0; i < 7; i++) {
            due.same("kind(" + i + "), backwards", due.x.kind(i), 6 - i);
        }
    }

    private static void kindOfNoNode() {
        due.sentence("kind: IndexOutOfBounds: there is no such node.");
        prepare();
        due.same("kind(0)", due.x.kind(0), 3);
        due.same("kind(1)", due.x.kind(1), 3);
        for (int i : new int[] {-1, 2, 3, 39, 40, 41, Integer.MAX_VALUE, Integer.MIN_VALUE}) {
            due.same("kind(" + i + ")", due.thrownByKind(i), OUTSIDE);
        }
        stays("kind of no node");
        prepare();
        due.select("$[9]");
        due.same("kind(0), nothing picked", due.thrownByKind(0), OUTSIDE);
        due.anew("[" + "0,".repeat(39) + "0]");
        due.select("$[*]");
        due.same("kind(39) of 40", due.x.kind(39), 3);
        due.same("kind(40) of 40", due.thrownByKind(40), OUTSIDE);
    }

    private static void showWritesInsteadOfWhatWasThere() {
        due.sentence("Writes the path (what = 0) or the value (1) of node i on the page, instead of what was there: how many characters.");
        due.anew("[\"abcdef\",1]");
        due.select("$[*]");
        due.same("show(0, 1)", due.x.show(0, 1), 8);
        due.same("the page", due.page(), "\"abcdef\"");
        due.same("show(1, 1)", due.x.show(1, 1), 1);
        due.same("a shorter page", due.page(), "1");
        due.same("charAt(1)", due.x.charAt(1), ' ');
        due.same("show(1, 0)", due.x.show(1, 0), 4);
        due.same("a longer page", due.page(), "$[1]");
        due.same("show(1, 0) again", due.x.show(1, 0), 4);
        due.same("the same page", due.page(), "$[1]");
        due.anew("{\"" + "'".repeat(114) + "\":0}");
        due.select("$.*");
        due.same("show(0, 0), the longest page", due.x.show(0, 0), 233);
        due.same("charAt(230)", due.x.charAt(230), '\'');
        due.same("charAt(232)", due.x.charAt(232), ']');
    }

    private static void showOfNoNode() {
        due.sentence("show: IndexOutOfBounds: there is no such node.");
        prepare();
        for (int i : new int[] {-1, 2, 3, 40, Integer.MAX_VALUE, Integer.MIN_VALUE}) {
            due.same("show(" + i + ", 0)", due.thrownByShow(i, 0), OUTSIDE);
            due.same("show(" + i + ", 1)", due.thrownByShow(i, 1), OUTSIDE);
        }
        stays("show of no node");
        prepare();
        due.select("$[9]");
        due.same("show(0, 0), nothing picked", due.thrownByShow(0, 0), OUTSIDE);
        due.same("the page", due.page(), "$[1]");
    }

    private static void showOfNeither() {
        due.sentence("IllegalArgument: what is not 0 or 1.");
        prepare();
        for (int what : new int[] {-1, 2, 3, 256, Integer.MAX_VALUE, Integer.MIN_VALUE}) {
            due.same("show(0, " + what + ")", due.thrownByShow(0, what), WRONG);
            due.same("show(1, " + what + ")", due.thrownByShow(1, what), WRONG);
        }
        stays("show of neither");
    }

    private static void firstExceptionWins() {
        due.sentence("where it lists more than one exception, the first one wins");
        prepare();
        for (int i : new int[] {-1, 2, Integer.MAX_VALUE, Integer.MIN_VALUE}) {
            for (int what : new int[] {-1, 2, Integer.MAX_VALUE, Integer.MIN_VALUE}) {
                due.same("show(" + i + ", " + what + ")", due.thrownByShow(i, what), OUTSIDE);
            }
        }
        fresh();
        due.same("show(0, 2) of a new object", due.thrownByShow(0, 2), OUTSIDE);
    }

    private static void nothingElseChangesThePage() {
        due.sentence("(Nothing else changes the page.)");
        prepare();
        due.type("[8]");
        due.same("the page behind type", due.page(), "$[1]");
        due.x.wipe();
        due.same("the page behind wipe()", due.page(), "$[1]");
        due.read("[");
        due.same("the page behind read() with a fault", due.page(), "$[1]");
        due.select("$[");
        due.same("the page behind select() with a fault", due.page(), "$[1]");
        due.select("$[*,*,*,*,*,*,*,*,*,*,*,*,*,*]");
        due.same("the page behind select() of too many", due.page(), "$[1]");
        due.select("$[2]");
        due.same("the page behind select()", due.page(), "$[1]");
        due.x.nodes();
        due.x.kind(0);
        due.x.length();
        due.x.charAt(9);
        due.same("the page behind what only asks", due.page(), "$[1]");
        due.thrownByKind(5);
        due.thrownByShow(5, 0);
        due.thrownByShow(0, 5);
        due.same("the page behind what throws", due.page(), "$[1]");
        due.select("$[9]");
        due.same("the page behind select() of none", due.page(), "$[1]");
        due.read("[8]");
        due.same("the page behind read()", due.page(), "$[1]");
    }

    private static void thrownCallsChangeNothing() {
        due.sentence("A call that throws changes nothing");
        prepare();
        due.type("$[");
        due.thrownByKind(2);
        due.thrownByKind(-1);
        due.thrownByShow(2, 0);
        due.thrownByShow(0, 2);
        due.thrownByShow(2, 2);
        due.same("wipe() behind them", due.x.wipe(), 2);
        stays("what throws");
        prepare();
        due.type("$[");
        due.thrownByKind(2);
        due.thrownByShow(2, 0);
        due.thrownByShow(0, 2);
        due.type("0]");
        due.same("select() of the text that stayed", due.x.select(), 1);
    }

    private static void askingChangesNothing() {
        due.sentence("nodes, kind, show, length and charAt leave the text, the document and what is picked");
        prepare();
        due.type("$[");
        due.x.nodes();
        due.x.kind(1);
        due.x.show(1, 1);
        due.x.show(0, 0);
        due.x.length();
        due.x.charAt(0);
        due.same("wipe() behind them", due.x.wipe(), 2);
        stays("what only asks");
    }

    private static void lengths() {
        due.sentence("How many characters the page has.");
        fresh();
        due.same("length() of the empty page", due.x.length(), 0);
        due.read("[\"\",\"" + "a".repeat(110) + "\",0]");
        due.same("length() behind read()", due.x.length(), 0);
        due.select("$[*]");
        due.same("length() behind select()", due.x.length(), 0);
        due.x.show(2, 1);
        due.same("length() of 0", due.x.length(), 1);
        due.x.show(0, 1);
        due.same("length() of \"\"", due.x.length(), 2);
        due.x.show(1, 1);
        due.same("length() of a long string", due.x.length(), 112);
        due.x.show(1, 0);
        due.same("length() of a path", due.x.length(), 4);
        due.same("length() again", due.x.length(), 4);
    }

    private static void charactersOfThePage() {
        due.sentence("Character p of the page");
        prepare();
        due.same("charAt(0)", due.x.charAt(0), '$');
        due.same("charAt(1)", due.x.charAt(1), '[');
        due.same("charAt(2)", due.x.charAt(2), '1');
        due.same("charAt(3)", due.x.charAt(3), ']');
        due.same("charAt(0) again", due.x.charAt(0), '$');
    }

    private static void noSuchCharacter() {
        due.sentence("a space when there is none");
        int[] places = {-1, 4, 5, 119, 120, 1000, Integer.MAX_VALUE, Integer.MIN_VALUE};
        prepare();
        for (int p : places) {
            due.same("charAt(" + p + ")", due.x.charAt(p), ' ');
        }
        fresh();
        due.same("charAt(0) of the empty page", due.x.charAt(0), ' ');
        for (int p : places) {
            due.same("charAt(" + p + ") of the empty page", due.x.charAt(p), ' ');
        }
        due.anew("[\"abcdef\",1]");
        due.select("$[*]");
        due.x.show(0, 1);
        due.x.show(1, 1);
        due.same("charAt(3), where a longer page had one", due.x.charAt(3), ' ');
    }

    private static void callsOfAnObject() {
        due.sentence("An object is used for at most 512 calls after it has been made");
        fresh();
        for (int k = 0; k < 128; k++) {
            due.same("type", due.x.type('1'), true);
            due.same("read()", due.x.read(), 1);
            due.same("type", due.x.type('$'), true);
            due.same("select()", due.x.select(), 1);
        }
        prepare();
        for (int k = 0; k < 247; k++) {
            due.same("show(1, 1)", due.x.show(1, 1), 1);
            due.same("show(1, 0)", due.x.show(1, 0), 4);
        }
        due.same("call 511", due.x.length(), 4);
        due.same("call 512", due.x.charAt(2), '2');
    }
}

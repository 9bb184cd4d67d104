/** Promises 1 to 3: a new object, type and wipe. */
public final class TextTest {
    private static final Due due = new Due();

    public static void main(String[] args) {
        newObject();
        typedCharacters();
        fullText();
        wiping();
        due.end();
    }

    private static void newObject() {
        due.x = new SelectedNodes();
        due.same("nodes() at first", due.x.nodes(), 0);
        due.same("length() at first", due.x.length(), 0);
        due.same("charAt(0) at first", due.x.charAt(0), ' ');
        due.same("select() at first", due.thrownBySelect(), "IllegalStateException");
        due.same("kind(0) at first", due.thrownByKind(0), "IndexOutOfBoundsException");
        due.same("show(0, 0) at first", due.thrownByShow(0, 0), "IndexOutOfBoundsException");
        due.same("wipe() at first", due.x.wipe(), 0);
        due.same("read() at first", due.x.read(), -1);
    }

    private static void typedCharacters() {
        int taken = 0;
        for (int c = 0; c <= Character.MAX_VALUE; c++) {
            due.x = new SelectedNodes();
            boolean want = c >= 32 && c <= 126;
            due.same("type of code " + c, due.x.type((char) c), want);
            taken += want ? 1 : 0;
            due.same("wipe() behind code " + c, due.x.wipe(), want ? 1 : 0);
        }
        due.same("codes that are taken", taken, 95);
        due.x = new SelectedNodes();
        due.x.type((char) 31);
        due.x.type((char) 127);
        due.type("[1]");
        due.x.type((char) 0);
        due.x.type((char) 10);
        due.x.type((char) 305);
        due.same("what is refused is not in the text", due.x.read(), 2);
    }

    private static void fullText() {
        due.x = new SelectedNodes();
        due.type("\"" + "a".repeat(118) + "\"");
        due.same("type of character 121", due.x.type(' '), false);
        due.same("type of character 121, wrong too", due.x.type((char) 5), false);
        due.same("read() of 120 characters", due.x.read(), 1);
        due.x = new SelectedNodes();
        due.type("a".repeat(119));
        due.same("type of character 120", due.x.type('a'), true);
        due.same("type of character 121", due.x.type('a'), false);
        due.same("wipe() of 120 characters", due.x.wipe(), 120);
        due.same("type behind wipe()", due.x.type('a'), true);
        due.same("wipe() of 1 character", due.x.wipe(), 1);
        due.x = new SelectedNodes();
        due.type(" ".repeat(120));
        due.same("read() of 120 spaces", due.x.read(), -121);
        due.type("$['" + "a".repeat(117));
        due.same("select() with no document", due.thrownBySelect(), "IllegalStateException");
        due.same("the text stays", due.x.wipe(), 120);
    }

    private static void wiping() {
        due.anew("[7]");
        due.select("$[0]");
        due.shown(0, 1);
        due.type("xyz");
        due.same("wipe()", due.x.wipe(), 3);
        due.same("wipe() again", due.x.wipe(), 0);
        due.same("the document stays", due.select("$[*]"), 1);
        due.same("the picked stay", due.x.nodes(), 1);
        due.same("the page stays", due.page(), "7");
        due.type("$[9");
        due.x.wipe();
        due.same("a wiped text is not read", due.select("$"), 1);
    }
}

/**
 * What the tests share: an object under test, and the count of answers that are not the due ones. An object
 * is good for 512 calls alone, so whatever asks a whole page makes the object anew.
 */
final class Due {
    private int wrong = 0;
    private String document = "";
    private String sentence = "";
    SelectedNodes x = new SelectedNodes();

    /** The object is made anew, with this document in it. */
    void anew(String text) {
        document = text;
        x = new SelectedNodes();
        if (read(text) < 0) {
            fail("not a document: " + text);
        }
    }

    /** The sentence of the document that the checks up to the next one are about: failures are told with it. */
    void sentence(String words) {
        sentence = words;
    }

    void fail(String what) {
        wrong++;
        System.out.println(sentence.isEmpty() ? what : what + " (" + sentence + ")");
    }

    void same(String what, Object got, Object want) {
        if (!got.equals(want)) {
            fail(what + " answered " + got + ", due is " + want);
        }
    }

    void type(String text) {
        for (int k = 0; k < text.length(); k++) {
            if (!x.type(text.charAt(k))) {
                fail("type refuses character " + k + " of " + text);
            }
        }
    }

    int read(String text) {
        type(text);
        return x.read();
    }

    int select(String text) {
        type(text);
        return x.select();
    }

    String page() {
        StringBuilder page = new StringBuilder();
        int size = x.length();
        for (int p = 0; p < size; p++) {
            page.append(x.charAt(p));
        }
        return page.toString();
    }

    String shown(int i, int what) {
        int size = x.show(i, what);
        same("length() after show(" + i + ", " + what + ")", x.length(), size);
        return page();
    }

    /** The paths (what = 0) or values (1) of all nodes that the query gives, with blanks between. */
    private String allShown(String query, int what) {
        anew(document);
        int count = select(query);
        if (count < 0) {
            return Integer.toString(count);
        }
        same("nodes() after " + query, x.nodes(), count);
        StringBuilder all = new StringBuilder();
        for (int i = 0; i < count; i++) {
            anew(document);
            select(query);
            all.append(i == 0 ? "" : " ").append(shown(i, what));
        }
        return all.toString();
    }

    /** On the document of anew: the query gives the nodes with these paths. */
    void paths(String query, String want) {
        same("paths of " + query, allShown(query, 0), want);
    }

    /** On the document of anew: the query gives nodes with these values. */
    void values(String query, String want) {
        same("values of " + query, allShown(query, 1), want);
    }

    /** On the document of anew: what select() answers. */
    void answer(String query, int want) {
        anew(document);
        same("select() of " + query, select(query), want);
        same("wipe() behind select() of " + query, x.wipe(), 0);
    }

    /** The text is a document of so many values. */
    void document(String text, int values) {
        x = new SelectedNodes();
        same("read() of " + text, read(text), values);
        same("nodes() behind read() of " + text, x.nodes(), 0);
        same("wipe() behind read() of " + text, x.wipe(), 0);
    }

    /** The text, which is no document, has this fault. */
    void documentFault(String text, int fault) {
        x = new SelectedNodes();
        same("read() of " + text, read(text), -1 - fault);
        same("wipe() behind read() of " + text, x.wipe(), 0);
        same("select() behind read() of " + text, thrownBySelect(), "IllegalStateException");
    }

    /** The text, which is no query, has this fault. */
    void queryFault(String text, int fault) {
        answer(text, -1 - fault);
    }

    /** The exception that select(), kind(i) or show(i, what) throws, by its simple name; "" for none. */
    String thrownBySelect() {
        try {
            x.select();
            return "";
        } catch (RuntimeException e) {
            return e.getClass().getSimpleName();
        }
    }

    String thrownByKind(int i) {
        try {
            x.kind(i);
            return "";
        } catch (RuntimeException e) {
            return e.getClass().getSimpleName();
        }
    }

    String thrownByShow(int i, int what) {
        try {
            x.show(i, what);
            return "";
        } catch (RuntimeException e) {
            return e.getClass().getSimpleName();
        }
    }

    /** Ends the test: with exit code 1 when an answer was wrong. */
    void end() {
        if (wrong > 0) {
            System.out.println(wrong + " wrong answers");
            System.exit(1);
        }
    }
}

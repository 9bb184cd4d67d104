/** Promise 4: read. */
public final class ReadTest {
    private static final Due due = new Due();

    public static void main(String[] args) {
        counts();
        spaces();
        faultsOfWords();
        faultsOfNumbers();
        faultsOfStrings();
        faultsOfArrays();
        faultsOfObjects();
        depth();
        whatChanges();
        due.end();
    }

    private static void counts() {
        due.document("null", 1);
        due.document("false", 1);
        due.document("true", 1);
        due.document("0", 1);
        due.document("-0", 1);
        due.document("-0.0", 1);
        due.document("123456789.123", 1);
        due.document("-999999999.999", 1);
        due.document("\"\"", 1);
        due.document("\" '\\\"\\\\\\/\\b\\f\\n\\r\\t\"", 1);
        due.document("[]", 1);
        due.document("{}", 1);
        due.document("[1,[2,3],{\"a\":4}]", 7);
        due.document("{\"a\":{\"b\":[]},\"b\":1,\"A\":2,\"\":3,\" \":4}", 7);
        due.document("[" + "0,".repeat(58) + "0]", 60);
        due.document("{\"a\":{\"a\":1},\"b\":{\"a\":2}}", 5);
    }

    private static void spaces() {
        due.document("  1  ", 1);
        due.document(" [ ] ", 1);
        due.document(" { } ", 1);
        due.document("  [  1  ,  2  ]  ", 3);
        due.document("  {  \"a\"  :  1  ,  \"b\"  :  [ ]  }  ", 3);
        due.documentFault(" ", 1);
        due.documentFault("- 1", 1);
        due.documentFault("1 2", 2);
        due.documentFault("1 .5", 2);
        due.documentFault("[1 2]", 3);
        due.documentFault("n ull", 1);
        due.documentFault("\\", 0);
    }

    private static void faultsOfWords() {
        due.documentFault("", 0);
        due.documentFault("nul", 3);
        due.documentFault("nulL", 3);
        due.documentFault("nulll", 4);
        due.documentFault("fals", 4);
        due.documentFault("t", 1);
        due.documentFault("true false", 5);
        due.documentFault("Null", 0);
        due.documentFault("'a'", 0);
        due.documentFault("]", 0);
        due.documentFault(",", 0);
        due.documentFault("$", 0);
    }

    private static void faultsOfNumbers() {
        due.documentFault("-", 1);
        due.documentFault("--1", 1);
        due.documentFault("+1", 0);
        due.documentFault("00", 1);
        due.documentFault("-01", 2);
        due.documentFault("1234567890", 9);
        due.documentFault("-1234567890", 10);
        due.documentFault(".5", 0);
        due.documentFault("1.", 2);
        due.documentFault("1.a", 2);
        due.documentFault("-0.", 3);
        due.documentFault("1.1234", 5);
        due.documentFault("1.2.3", 3);
        due.documentFault("1e5", 1);
        due.documentFault("-a", 1);
    }

    private static void faultsOfStrings() {
        due.documentFault("\"", 1);
        due.documentFault("\"ab", 3);
        due.documentFault("\"a\\", 3);
        due.documentFault("\"a\\\"", 4);
        due.documentFault("\"\\u0041\"", 2);
        due.documentFault("\"\\'\"", 2);
        due.documentFault("\"\\ \"", 2);
        due.documentFault("\"\\B\"", 2);
        due.documentFault("\"\"\"", 2);
        due.documentFault("\"a\"b", 3);
    }

    private static void faultsOfArrays() {
        due.documentFault("[", 1);
        due.documentFault("[ ", 2);
        due.documentFault("[,", 1);
        due.documentFault("[1", 2);
        due.documentFault("[1,", 3);
        due.documentFault("[1,]", 3);
        due.documentFault("[1}", 2);
        due.documentFault("[1]]", 3);
        due.documentFault("[1:", 2);
        due.documentFault("[1],", 3);
    }

    private static void faultsOfObjects() {
        due.documentFault("{", 1);
        due.documentFault("{a", 1);
        due.documentFault("{1", 1);
        due.documentFault("{'a'", 1);
        due.documentFault("{,", 1);
        due.documentFault("{]", 1);
        due.documentFault("{\"a\"", 4);
        due.documentFault("{\"a\"}", 4);
        due.documentFault("{\"a\",", 4);
        due.documentFault("{\"a\":", 5);
        due.documentFault("{\"a\":}", 5);
        due.documentFault("{\"a\":1", 6);
        due.documentFault("{\"a\":1,", 7);
        due.documentFault("{\"a\":1,}", 7);
        due.documentFault("{\"a\":1]", 6);
        due.documentFault("{\"a\":1,\"a\":2}", 9);
        due.documentFault("{\"a\":1,\"a", 9);
        due.documentFault("{\"\":1,\"\":2}", 7);
        due.documentFault("{\"/\":1,\"\\/\":2}", 10);
        due.documentFault("{\"\\n\":1,\"n\":2,\"\\n\":3}", 17);
        due.document("{\"a\":1,\"aa\":2,\"A\":3,\"a \":4}", 5);
        due.document("{\"\\n\":1,\"n\":2}", 3);
    }

    private static void depth() {
        due.document("[[[[[[]]]]]]", 6);
        due.document("[[[[[{ }]]]]]", 6);
        due.document("[[[[[1,\"a\",[ ],{ }]]]]]", 9);
        due.document("{\"a\":{\"a\":{\"a\":{\"a\":{\"a\":{}}}}}}", 6);
        due.documentFault("[[[[[[[", 6);
        due.documentFault("[[[[[[ 1", 7);
        due.documentFault("[[[[[[\"", 6);
        due.documentFault("[[[[[{ \"a\":1", 7);
        due.documentFault("{\"a\":{\"a\":{\"a\":{\"a\":{\"a\":{\"", 26);
        due.documentFault("[[[[[[],[]],[[[", 14);
    }

    private static void whatChanges() {
        due.anew("[1,2,3]");
        due.same("select", due.select("$[*]"), 3);
        due.same("show", due.shown(1, 0), "$[1]");
        due.same("read() of a fault", due.read("[1,2"), -5);
        due.same("with a fault the picked stay", due.x.nodes(), 3);
        due.same("and the page", due.page(), "$[1]");
        due.same("and the document", due.shown(2, 1), "3");
        due.same("and it can be asked", due.select("$[1:]"), 2);
        due.shown(0, 0);
        due.same("read() of another document", due.read("[9]"), 2);
        due.same("nodes() behind it", due.x.nodes(), 0);
        due.same("the page stays behind a new document", due.page(), "$[1]");
        due.same("nothing is picked then", due.thrownByKind(0), "IndexOutOfBoundsException");
        due.same("the new document is asked", due.select("$[*]"), 1);
        due.same("show(0, 1)", due.shown(0, 1), "9");
    }
}

/** Promises 6 to 10: nodes, kind, show, length and charAt. */
public final class ShowTest {
    private static final Due due = new Due();

    public static void main(String[] args) {
        kinds();
        paths();
        values();
        wrongCalls();
        page();
        due.end();
    }

    private static void kinds() {
        due.anew("[null,false,true,1,\"a\",[],{}]");
        due.same("select", due.select("$[*]"), 7);
        due.same("nodes()", due.x.nodes(), 7);
        for (int i = 0; i < 7; i++) {
            due.same("kind(" + i + ")", due.x.kind(i), i);
        }
        due.select("$");
        due.same("nodes()", due.x.nodes(), 1);
        due.same("kind(0) of the whole", due.x.kind(0), 5);
    }

    private static void paths() {
        due.anew("{\"a\":[{\"x y\":[0,{\"\":{}}]}],\"'\":1,\"\\\\\":2,\"\\\"\":3,\"/\":4,\"\\b\\f\\n\\r\\t\":5,\"$[0]\":6}");
        due.paths("$", "$");
        due.paths("$.a[0]['x y'][1]['']", "$['a'][0]['x y'][1]['']");
        due.paths("$.*", "$['a'] $['\\''] $['\\\\'] $['\"'] $['/'] $['\\b\\f\\n\\r\\t'] $['$[0]']");
        due.anew("[" + "0,".repeat(58) + "1]");
        due.paths("$[-1]", "$[58]");
        due.paths("$[9:11]", "$[9] $[10]");
        due.anew("{\"" + "'".repeat(113) + "\":0}");
        due.paths("$.*", "$['" + "\\'".repeat(113) + "']");
        due.anew("{\"a\":{\"b\":{\"c\":{\"d\":{\"e\":1}}}}}");
        due.paths("$..e", "$['a']['b']['c']['d']['e']");
    }

    private static void written(String text, String want) {
        due.anew(text);
        due.values("$", want);
    }

    private static void values() {
        written(" null ", "null");
        written("true", "true");
        written("false", "false");
        written("-0", "0");
        written("0.000", "0");
        written("-0.00", "0");
        written("-0.5", "-0.5");
        written("1.50", "1.5");
        written("10", "10");
        written("100.100", "100.1");
        written("1.010", "1.01");
        written("1.001", "1.001");
        written("0.09", "0.09");
        written("-999999999.999", "-999999999.999");
        written("999999999.999", "999999999.999");
        written("\"a'\\\"\\\\\\/b\"", "\"a'\\\"\\\\/b\"");
        written("\"\\b\\f\\n\\r\\t\"", "\"\\b\\f\\n\\r\\t\"");
        written("\" ~ \"", "\" ~ \"");
        written(" [ ] ", "[]");
        written("{ }", "{}");
        written("[ 1.0 , [ ] , { \"a b\" : null , \"\\/\\n\" : [ true , false ] } ]",
            "[1,[],{\"a b\":null,\"/\\n\":[true,false]}]");
        written("[[[[[[]]]]]]", "[[[[[[]]]]]]");
        written("{\"\\\"\":{\"a\":{\"a\":{\"a\":{\"a\":{}}}}}}", "{\"\\\"\":{\"a\":{\"a\":{\"a\":{\"a\":{}}}}}}");
    }

    private static void wrongCalls() {
        due.anew("[1,2]");
        int[] outside = {0, 1, -1, 40, Integer.MAX_VALUE, Integer.MIN_VALUE};
        for (int i : outside) {
            due.same("kind(" + i + "), nothing picked", due.thrownByKind(i), "IndexOutOfBoundsException");
            due.same("show(" + i + ", 0), nothing picked", due.thrownByShow(i, 0), "IndexOutOfBoundsException");
            due.same("show(" + i + ", 5), nothing picked", due.thrownByShow(i, 5), "IndexOutOfBoundsException");
        }
        due.select("$[*]");
        due.shown(0, 0);
        for (int i : new int[] {2, -1, 39, 40, 41, Integer.MAX_VALUE, Integer.MIN_VALUE}) {
            due.same("kind(" + i + ")", due.thrownByKind(i), "IndexOutOfBoundsException");
            due.same("show(" + i + ", 1)", due.thrownByShow(i, 1), "IndexOutOfBoundsException");
            due.same("show(" + i + ", 2)", due.thrownByShow(i, 2), "IndexOutOfBoundsException");
        }
        for (int what : new int[] {2, -1, Integer.MAX_VALUE, Integer.MIN_VALUE}) {
            due.same("show(1, " + what + ")", due.thrownByShow(1, what), "IllegalArgumentException");
        }
        due.same("the page behind them", due.page(), "$[0]");
        due.same("the picked behind them", due.x.nodes(), 2);
        due.select("$[0]");
        due.same("kind(1), fewer picked", due.thrownByKind(1), "IndexOutOfBoundsException");
    }

    private static void page() {
        due.anew("[\"abc\",1]");
        due.select("$[*]");
        due.same("length() before show", due.x.length(), 0);
        due.same("show(0, 1)", due.x.show(0, 1), 5);
        due.same("length()", due.x.length(), 5);
        due.same("charAt(0)", due.x.charAt(0), '"');
        due.same("charAt(3)", due.x.charAt(3), 'c');
        due.same("charAt(4)", due.x.charAt(4), '"');
        for (int p : new int[] {5, -1, Integer.MAX_VALUE, Integer.MIN_VALUE}) {
            due.same("charAt(" + p + ")", due.x.charAt(p), ' ');
        }
        due.same("show(1, 1)", due.x.show(1, 1), 1);
        due.same("length() of a shorter page", due.x.length(), 1);
        due.same("charAt(1) of a shorter page", due.x.charAt(1), ' ');
        due.select("$.none");
        due.same("nodes()", due.x.nodes(), 0);
        due.same("the page stays behind select()", due.page(), "1");
        due.select("$[");
        due.type("a");
        due.x.wipe();
        due.x.read();
        due.read("[]");
        due.same("the page stays behind all else", due.page(), "1");
    }
}

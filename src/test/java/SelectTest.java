/** Promise 5: select, without conditions, and promise 6. */
public final class SelectTest {
    private static final Due due = new Due();

    public static void main(String[] args) {
        names();
        strings();
        places();
        slices();
        slicesAgainstTheirDefinition();
        children();
        deepDown();
        faults();
        whatChanges();
        manyNodes();
        due.end();
    }

    private static void names() {
        due.anew("{\"a\":{\"b\":[1,{\"c\":2}]},\"_\":3,\"A1\":4,\"\":5}");
        due.paths("$", "$");
        due.paths("$.a", "$['a']");
        due.paths("$.a.b", "$['a']['b']");
        due.paths("$.a.b[1].c", "$['a']['b'][1]['c']");
        due.paths("$._", "$['_']");
        due.paths("$.A1", "$['A1']");
        due.paths("$.A", "");
        due.paths("$.b", "");
        due.paths("$.a.b.c", "");
        due.paths("$._.a", "");
        due.paths("$.none.a", "");
        due.paths("$['a'][\"b\"]", "$['a']['b']");
        due.paths("$['']", "$['']");
        due.paths("$['A1','_','none','A1']", "$['A1'] $['_'] $['A1']");
        due.anew("[1]");
        due.paths("$.a", "");
        due.paths("$['0']", "");
        due.anew("\"abc\"");
        due.paths("$", "$");
        due.paths("$.a", "");
        due.paths("$[0]", "");
        due.paths("$.*", "");
        due.paths("$[::]", "");
        due.paths("$..*", "");
    }

    private static void strings() {
        due.anew("{\"'\":1,\"\\\"\":2,\"\\\\\":3,\"/\":4,\"\\b\\f\\n\\r\\t\":5,\"bfnrt\":6,\" x ]\":7}");
        due.values("$['\\'']", "1");
        due.values("$[\"'\"]", "1");
        due.values("$['\"']", "2");
        due.values("$[\"\\\"\"]", "2");
        due.values("$['\\\\']", "3");
        due.values("$[\"\\\\\"]", "3");
        due.values("$['/','\\/',\"/\",\"\\/\"]", "4 4 4 4");
        due.values("$['\\b\\f\\n\\r\\t']", "5");
        due.values("$[\"\\b\\f\\n\\r\\t\"]", "5");
        due.values("$['bfnrt']", "6");
        due.values("$[' x ]']", "7");
        due.values("$['x ]']", "");
    }

    private static void places() {
        due.anew("[10,[20,21],{\"a\":30}]");
        due.values("$[0]", "10");
        due.values("$[2]", "{\"a\":30}");
        due.values("$[3]", "");
        due.values("$[999]", "");
        due.values("$[-1].a", "30");
        due.values("$[-3]", "10");
        due.values("$[-4]", "");
        due.values("$[-999]", "");
        due.values("$[1][1]", "21");
        due.values("$[1][-1,0,0]", "21 20 20");
        due.values("$[2][0]", "");
        due.values("$[2][-1]", "");
        due.anew("[" + "0,".repeat(58) + "7]");
        due.paths("$[58]", "$[58]");
        due.paths("$[-59]", "$[0]");
        due.paths("$[59]", "");
    }

    private static void slices() {
        due.anew("[0,1,2,3,4]");
        due.values("$[:]", "0 1 2 3 4");
        due.values("$[::]", "0 1 2 3 4");
        due.values("$[1:3]", "1 2");
        due.values("$[:2]", "0 1");
        due.values("$[3:]", "3 4");
        due.values("$[-2:]", "3 4");
        due.values("$[:-3]", "0 1");
        due.values("$[::2]", "0 2 4");
        due.values("$[1::2]", "1 3");
        due.values("$[::-1]", "4 3 2 1 0");
        due.values("$[::-2]", "4 2 0");
        due.values("$[3:1:-1]", "3 2");
        due.values("$[3::-1]", "3 2 1 0");
        due.values("$[:3:-1]", "4");
        due.values("$[:-6:-1]", "4 3 2 1 0");
        due.values("$[:-5:-1]", "4 3 2 1");
        due.values("$[::0]", "");
        due.values("$[0:5:0]", "");
        due.values("$[3:1]", "");
        due.values("$[1:3:-1]", "");
        due.values("$[-999:999:999]", "0");
        due.values("$[999:-999:-999]", "4");
        due.values("$[5:]", "");
        due.values("$[1:2,0,::4]", "1 0 0 4");
        due.anew("{\"a\":1,\"b\":2}");
        due.values("$[:]", "");
        due.values("$[::-1]", "");
        due.anew("[]");
        due.values("$[:]", "");
        due.values("$[::-1]", "");
        due.values("$[-1:1:1]", "");
    }

    /** All small slices, against the words of the document read as they stand. */
    private static void slicesAgainstTheirDefinition() {
        Integer[] ends = {null, -5, -4, -3, -2, -1, 0, 1, 2, 3, 4, 5};
        Integer[] steps = {null, -4, -3, -2, -1, 0, 1, 2, 3, 4};
        String[] documents = {"[]", "[0]", "[0,1]", "[0,1,2]", "[0,1,2,3]"};
        for (int n = 0; n < documents.length; n++) {
            due.anew(documents[n]);
            for (Integer a : ends) {
                for (Integer b : ends) {
                    for (Integer c : steps) {
                        due.values("$[" + word(a) + ":" + word(b) + ":" + word(c) + "]", slice(a, b, c, n));
                    }
                }
            }
        }
    }

    private static String word(Integer place) {
        return place == null ? "" : place.toString();
    }

    private static String slice(Integer first, Integer second, Integer third, int n) {
        int c = third == null ? 1 : third;
        int a = first != null ? first : c > 0 ? 0 : n - 1;
        int b = second != null ? second : c > 0 ? n : -1 - n;
        a = a < 0 ? a + n : a;
        b = b < 0 ? b + n : b;
        StringBuilder given = new StringBuilder();
        for (int k = 0; c != 0 && k <= n; k++) {
            int lowest = c > 0 ? 0 : -1;
            int highest = c > 0 ? n : n - 1;
            int item = Math.min(highest, Math.max(lowest, a)) + k * c;
            int end = Math.min(highest, Math.max(lowest, b));
            if (c > 0 ? item < end : item > end) {
                given.append(given.length() == 0 ? "" : " ").append(item);
            }
        }
        return given.toString();
    }

    private static void children() {
        due.anew("{\"b\":[1,2],\"a\":{\"z\":3,\"y\":4},\"c\":5}");
        due.paths("$.*", "$['b'] $['a'] $['c']");
        due.paths("$[*]", "$['b'] $['a'] $['c']");
        due.values("$.*.*", "1 2 3 4");
        due.values("$[*][*]", "1 2 3 4");
        due.values("$.b[*,0,*]", "1 2 1 1 2");
        due.values("$.c.*", "");
        due.values("$['a','b'].*", "3 4 1 2");
        due.values("$['a','a'].z", "3 3");
    }

    private static void deepDown() {
        due.anew("{\"a\":[{\"a\":1},[2,{\"a\":{\"a\":3}}]],\"b\":{\"a\":4}}");
        due.paths("$..a", "$['a'] $['a'][0]['a'] $['a'][1][1]['a'] $['a'][1][1]['a']['a'] $['b']['a']");
        due.paths("$..*", "$['a'] $['b'] $['a'][0] $['a'][1] $['a'][0]['a'] $['a'][1][0] $['a'][1][1]"
            + " $['a'][1][1]['a'] $['a'][1][1]['a']['a'] $['b']['a']");
        due.paths("$..[0]", "$['a'][0] $['a'][1][0]");
        due.paths("$..[-1,0]", "$['a'][1] $['a'][0] $['a'][1][1] $['a'][1][0]");
        due.paths("$..[1:]", "$['a'][1] $['a'][1][1]");
        due.paths("$..['b','a']", "$['b'] $['a'] $['a'][0]['a'] $['a'][1][1]['a'] $['a'][1][1]['a']['a'] $['b']['a']");
        due.values("$..b..a", "4");
        due.values("$.a..a", "1 {\"a\":3} 3");
        due.values("$..a..a", "1 {\"a\":3} 3 3");
        due.values("$.b..b", "");
        due.paths("$..[?@.a]", "$['b'] $['a'][0] $['a'][1][1] $['a'][1][1]['a']");
    }

    private static void faults() {
        due.anew("[]");
        due.queryFault("", 0);
        due.queryFault("a", 0);
        due.queryFault("@", 0);
        due.queryFault(" $", 0);
        due.queryFault("$ ", 1);
        due.queryFault("$$", 1);
        due.queryFault("$a", 1);
        due.queryFault("$.", 2);
        due.queryFault("$. a", 2);
        due.queryFault("$.1", 2);
        due.queryFault("$.[", 2);
        due.queryFault("$.'a'", 2);
        due.queryFault("$.a-b", 3);
        due.queryFault("$.a*", 3);
        due.queryFault("$.*a", 3);
        due.queryFault("$..", 3);
        due.queryFault("$...", 3);
        due.queryFault("$..1", 3);
        due.queryFault("$..*.", 5);
        due.queryFault("$[", 2);
        due.queryFault("$[]", 2);
        due.queryFault("$[ 0]", 2);
        due.queryFault("$[0 ]", 3);
        due.queryFault("$[a]", 2);
        due.queryFault("$[0", 3);
        due.queryFault("$[0,", 4);
        due.queryFault("$[0,]", 4);
        due.queryFault("$[0]]", 4);
        due.queryFault("$[,0]", 2);
        due.queryFault("$[*0]", 3);
        due.queryFault("$[00]", 3);
        due.queryFault("$[-]", 3);
        due.queryFault("$[-0]", 3);
        due.queryFault("$[--1]", 3);
        due.queryFault("$[+1]", 2);
        due.queryFault("$[1000]", 5);
        due.queryFault("$[-1000]", 6);
        due.queryFault("$[1.5]", 3);
        due.queryFault("$[1:2:3:4]", 7);
        due.queryFault("$[1:-]", 5);
        due.queryFault("$[1::-0]", 6);
        due.queryFault("$[:01]", 4);
        due.queryFault("$[1:*]", 4);
        due.queryFault("$['a]", 5);
        due.queryFault("$['a\\'", 6);
        due.queryFault("$['\\\"']", 4);
        due.queryFault("$[\"\\'\"]", 4);
        due.queryFault("$['\\u']", 4);
        due.queryFault("$['a'b]", 5);
        due.queryFault("$['", 3);
    }

    private static void whatChanges() {
        due.anew("[1,2,3]");
        due.same("select", due.select("$[0,1]"), 2);
        due.same("a fault", due.select("$["), -3);
        due.same("nodes() behind a fault", due.x.nodes(), 2);
        due.same("the text behind a fault", due.x.wipe(), 0);
        due.same("many", due.select("$[*,*,*,*,*,*,*,*,*,*,*,*,*,*]"), SelectedNodes.MANY);
        due.same("nodes() behind many", due.x.nodes(), 2);
        due.same("the text behind many", due.x.wipe(), 0);
        due.same("what is picked behind many", due.shown(1, 0), "$[1]");
        due.same("none", due.select("$[9]"), 0);
        due.same("nodes() behind none", due.x.nodes(), 0);
        due.x = new SelectedNodes();
        due.type("$");
        due.same("no document", due.thrownBySelect(), "IllegalStateException");
        due.same("the text stays", due.x.wipe(), 1);
        due.read("[");
        due.same("a faulty one is none", due.thrownBySelect(), "IllegalStateException");
    }

    private static void manyNodes() {
        due.anew("[[1,2,3,4],[1,2,3,4],[1,2,3,4],[1,2,3,4],[1,2,3,4],[1,2,3,4],[1,2,3,4],[1,2,3,4],[1,2,3,4],[1,2,3,4]]");
        due.answer("$[*][*]", 40);
        due.answer("$[*][*,4]", 40);
        due.answer("$[*][*,0]", SelectedNodes.MANY);
        due.answer("$[*,0][*]", SelectedNodes.MANY);
        due.answer("$[*,0][*].a", SelectedNodes.MANY);
        due.answer("$..[0]", 11);
        due.answer("$..[0,1,2]", 33);
        due.answer("$..[0,1,2,3]", SelectedNodes.MANY);
        due.answer("$..*", SelectedNodes.MANY);
        due.answer("$..a", 0);
        due.answer("$[0:9][*]", 36);
        due.anew("[" + "0,".repeat(40) + "0]");
        due.answer("$[*]", SelectedNodes.MANY);
        due.answer("$.*", SelectedNodes.MANY);
        due.answer("$[:]", SelectedNodes.MANY);
        due.answer("$[:40]", 40);
        due.answer("$[::-1]", SelectedNodes.MANY);
        due.answer("$[40:0:-1]", 40);
        due.answer("$[?@==0]", SelectedNodes.MANY);
        due.answer("$[?@==1]", 0);
    }
}

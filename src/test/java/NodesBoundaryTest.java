/** The boundary cases that the terms name for what queries give: each sentence has a method of its own. */
public final class NodesBoundaryTest {
    private static final int MANY = -200;
    private static final Due due = new Due();

    public static void main(String[] args) {
        wholeDocument();
        membersOfThatName();
        allChildren();
        places();
        placesBelow0();
        triedChildren();
        slicesOfArraysAlone();
        absentStep();
        step0();
        absentEnds();
        absentEndsBackwards();
        endsBelow0();
        endsOutside();
        endsOutsideBackwards();
        endsAreLeftOut();
        nodesBelow();
        rowsOf40();
        rowsOf40ByEachSelector();
        rowsOf40DeepDown();
        rowsOnTheWay();
        rowsInConditions();
        rowsBeginAnew();
        triesOfOneFilterAfterAnother();
        triesInFilters();
        triesDeepDown();
        triesThatAreNotMade();
        due.end();
    }

    /** An array of so many zeros. */
    private static String zeros(int n) {
        return n == 0 ? "[]" : "[" + "0,".repeat(n - 1) + "0]";
    }

    private static void wholeDocument() {
        due.sentence("at first that of the whole document ($)");
        String[] documents = {"null", "0", "\"\"", "[]", "{}", "[0]"};
        for (String document : documents) {
            due.anew(document);
            due.paths("$", "$");
            due.values("$", document);
        }
    }

    private static void membersOfThatName() {
        due.sentence("a word or string the member of that name, if it is an object that has one");
        due.anew("{\"a\":1,\"\":2,\"0\":3}");
        due.values("$.a", "1");
        due.values("$['a']", "1");
        due.values("$['']", "2");
        due.values("$['0']", "3");
        due.values("$.A", "");
        due.values("$.aa", "");
        due.values("$['a ']", "");
        due.anew("{}");
        due.values("$.a", "");
        due.values("$['']", "");
        due.anew("[7]");
        due.values("$.a", "");
        due.values("$['']", "");
        due.values("$['0']", "");
        due.anew("\"a\"");
        due.values("$.a", "");
        due.values("$['']", "");
    }

    private static void allChildren() {
        due.sentence("* all children");
        due.anew("[[],{},7,\"abc\",[1],{\"a\":2}]");
        due.values("$[0].*", "");
        due.values("$[1].*", "");
        due.values("$[2].*", "");
        due.values("$[3][*]", "");
        due.values("$[4].*", "1");
        due.values("$[5][*]", "2");
        due.answer("$.*", 6);
    }

    private static void places() {
        due.sentence("a place k item k .. of an array of n items that has such a one");
        due.anew("[5,6,7]");
        due.values("$[0]", "5");
        due.values("$[2]", "7");
        due.values("$[3]", "");
        due.values("$[999]", "");
        due.anew("[]");
        due.values("$[0]", "");
        due.anew("{\"0\":1}");
        due.values("$[0]", "");
        due.anew("\"abc\"");
        due.values("$[0]", "");
        due.anew(zeros(59));
        due.paths("$[58]", "$[58]");
        due.paths("$[59]", "");
    }

    private static void placesBelow0() {
        due.sentence("or for k below 0 item n + k");
        due.anew("[5,6,7]");
        due.values("$[-1]", "7");
        due.values("$[-3]", "5");
        due.values("$[-4]", "");
        due.values("$[-999]", "");
        due.anew("[]");
        due.values("$[-1]", "");
        due.anew("{\"a\":1}");
        due.values("$[-1]", "");
        due.anew("\"abc\"");
        due.values("$[-1]", "");
        due.anew(zeros(59));
        due.paths("$[-59]", "$[0]");
        due.paths("$[-60]", "");
    }

    private static void triedChildren() {
        due.sentence("? each child, in order, for which the condition holds, that child being the one that is tried (@)");
        due.anew("[[],{},7,\"abc\",[1,2],{\"b\":3,\"a\":4}]");
        due.values("$[0][?@]", "");
        due.values("$[1][?@]", "");
        due.values("$[2][?@]", "");
        due.values("$[3][?@]", "");
        due.values("$[4][?@]", "1 2");
        due.values("$[5][?@]", "3 4");
        due.values("$[4][?@>1]", "2");
        due.values("$[5][?@<1]", "");
    }

    private static void slicesOfArraysAlone() {
        due.sentence("A slice a : b : c gives nodes of an array of n items alone");
        due.anew("[[1],{\"a\":2},\"abc\",7,null,[]]");
        due.values("$[0][:]", "1");
        due.values("$[0][::-1]", "1");
        for (int k = 1; k < 6; k++) {
            due.values("$[" + k + "][:]", "");
            due.values("$[" + k + "][::-1]", "");
            due.values("$[" + k + "][0:1]", "");
        }
    }

    private static void absentStep() {
        due.sentence("c is 1 when it is not there");
        due.anew("[0,1,2,3]");
        due.values("$[:]", "0 1 2 3");
        due.values("$[::]", "0 1 2 3");
        due.values("$[1:3]", "1 2");
        due.values("$[1:3:]", "1 2");
        due.values("$[1:3:1]", "1 2");
    }

    private static void step0() {
        due.sentence("with c 0 none");
        due.anew("[0,1,2,3]");
        due.values("$[::0]", "");
        due.values("$[0:4:0]", "");
        due.values("$[3:0:0]", "");
        due.values("$[1:1:0]", "");
        due.anew("[]");
        due.values("$[::0]", "");
    }

    private static void absentEnds() {
        due.sentence("With c above 0, a is 0 and b n when they are not there");
        due.anew("[0,1,2,3]");
        due.values("$[:2]", "0 1");
        due.values("$[2:]", "2 3");
        due.values("$[::3]", "0 3");
        due.values("$[1::2]", "1 3");
        due.values("$[:3:2]", "0 2");
        due.values("$[::4]", "0");
        due.values("$[::999]", "0");
    }

    private static void absentEndsBackwards() {
        due.sentence("below, a is n - 1 and b -1 - n");
        due.anew("[0,1,2,3]");
        due.values("$[::-1]", "3 2 1 0");
        due.values("$[:1:-1]", "3 2");
        due.values("$[2::-1]", "2 1 0");
        due.values("$[::-3]", "3 0");
        due.values("$[::-4]", "3");
        due.values("$[::-999]", "3");
        due.anew("[0]");
        due.values("$[::-1]", "0");
    }

    private static void endsBelow0() {
        due.sentence("Those below 0 get n more");
        due.anew("[0,1,2,3]");
        due.values("$[-1:]", "3");
        due.values("$[-4:]", "0 1 2 3");
        due.values("$[:-1]", "0 1 2");
        due.values("$[:-4]", "");
        due.values("$[:-3]", "0");
        due.values("$[-1::-1]", "3 2 1 0");
        due.values("$[-4::-1]", "0");
        due.values("$[:-1:-1]", "");
        due.values("$[:-2:-1]", "3");
        due.values("$[:-4:-1]", "3 2 1");
    }

    private static void endsOutside() {
        due.sentence("With c above 0, both are made to lie in 0 .. n");
        due.anew("[0,1,2,3]");
        due.values("$[-5:]", "0 1 2 3");
        due.values("$[-999:]", "0 1 2 3");
        due.values("$[-5::2]", "0 2");
        due.values("$[:5]", "0 1 2 3");
        due.values("$[:999]", "0 1 2 3");
        due.values("$[:-5]", "");
        due.values("$[:-999]", "");
        due.values("$[4:]", "");
        due.values("$[5:]", "");
        due.values("$[999:]", "");
        due.values("$[999:999]", "");
    }

    private static void endsOutsideBackwards() {
        due.sentence("below, both are made to lie in -1 .. n - 1");
        due.anew("[0,1,2,3]");
        due.values("$[3::-2]", "3 1");
        due.values("$[4::-2]", "3 1");
        due.values("$[999::-2]", "3 1");
        due.values("$[-5::-1]", "");
        due.values("$[-999::-1]", "");
        due.values("$[:-5:-1]", "3 2 1 0");
        due.values("$[:-999:-1]", "3 2 1 0");
        due.values("$[:3:-1]", "");
        due.values("$[:4:-1]", "");
        due.values("$[:999:-1]", "");
        due.anew("[]");
        due.values("$[::-1]", "");
        due.values("$[0:-1:-1]", "");
        due.values("$[999:-999:-1]", "");
    }

    private static void endsAreLeftOut() {
        due.sentence("it gives the items a, a + c, .. below b; .. a, a + c, .. above b");
        due.anew("[0,1,2,3]");
        due.values("$[1:2]", "1");
        due.values("$[1:1]", "");
        due.values("$[2:1]", "");
        due.values("$[0:2:2]", "0");
        due.values("$[0:3:2]", "0 2");
        due.values("$[2:1:-1]", "2");
        due.values("$[1:1:-1]", "");
        due.values("$[1:2:-1]", "");
        due.values("$[3:1:-2]", "3");
        due.values("$[3:0:-2]", "3 1");
    }

    private static void nodesBelow() {
        due.sentence("with .. it goes through each node and all nodes below it");
        due.anew("[[[[[[]]]]]]");
        due.paths("$..*", "$[0] $[0][0] $[0][0][0] $[0][0][0][0] $[0][0][0][0][0]");
        due.anew("[[[[[7]]]]]");
        due.paths("$..[?@==7]", "$[0][0][0][0][0]");
        due.anew("{\"a\":{\"a\":{\"a\":{\"a\":{\"a\":7}}}}}");
        due.answer("$..a", 5);
        due.answer("$.a..a", 4);
        due.answer("$.a.a.a.a..a", 1);
        due.answer("$.a.a.a.a.a..a", 0);
        due.anew("[[1,2],3]");
        due.values("$..[0]", "[1,2] 1");
        due.values("$[0]..[1]", "2");
        due.values("$[1]..*", "");
        due.anew("[]");
        due.values("$..*", "");
        due.anew("7");
        due.values("$..*", "");
    }

    private static void rowsOf40() {
        due.sentence("A row (of the query) that would get more than 40 nodes .. ends all of select() with MANY");
        due.same("MANY", SelectedNodes.MANY, MANY);
        due.anew(zeros(40));
        due.answer("$[*]", 40);
        due.answer("$[*,40]", 40);
        due.answer("$[*,0]", MANY);
        due.answer("$[0:20,20:40]", 40);
        due.answer("$[0:20,19:40]", MANY);
        due.anew(zeros(41));
        due.answer("$[*]", MANY);
        due.answer("$[1:]", 40);
        due.anew(zeros(59));
        due.answer("$[*]", MANY);
        due.answer("$[0]", 1);
    }

    private static void rowsOf40ByEachSelector() {
        due.sentence("A row that would get more than 40 nodes, by each selector");
        due.anew("[" + "0,".repeat(40) + "{\"a\":0,\"b\":0}]");
        due.answer("$.*", MANY);
        due.answer("$[:]", MANY);
        due.answer("$[:40]", 40);
        due.answer("$[::-1]", MANY);
        due.answer("$[:0:-1]", 40);
        due.answer("$[?@]", MANY);
        due.answer("$[?@==0]", 40);
        due.answer("$[" + "0,".repeat(39) + "0]", 40);
        due.answer("$[" + "0,".repeat(40) + "0]", MANY);
        due.answer("$[0:38,-1][*]", 2);
        due.anew("[{\"a\":0},{\"a\":0,\"b\":0}]");
        due.answer("$[" + "0,".repeat(38) + "1]['a','b']", 40);
        due.answer("$[" + "0,".repeat(39) + "1]['a','b']", MANY);
        due.answer("$[" + "0,".repeat(39) + "1].a", 40);
        due.answer("$[" + "0,".repeat(38) + "1].*", 40);
        due.answer("$[" + "0,".repeat(39) + "1].*", MANY);
        due.answer("$[" + "0,".repeat(39) + "1][?@]", MANY);
    }

    private static void rowsOf40DeepDown() {
        due.sentence("A row that would get more than 40 nodes, with ..");
        due.anew("[" + zeros(20) + "," + zeros(18) + "]");
        due.answer("$..*", 40);
        due.answer("$..[:]", 40);
        due.answer("$..[?@]", 40);
        due.anew("[" + zeros(20) + "," + zeros(19) + "]");
        due.answer("$..*", MANY);
        due.answer("$..[:]", MANY);
        due.answer("$..[?@]", MANY);
        due.answer("$..[?@==0]", 39);
        due.anew(zeros(59));
        due.answer("$..[0]", 1);
        due.answer("$..a", 0);
    }

    private static void rowsOnTheWay() {
        due.sentence("A row that would get more than 40 nodes, though the last one would not");
        due.anew(zeros(41));
        due.answer("$[*].a", MANY);
        due.answer("$[*][0]", MANY);
        due.answer("$[1:].a", 0);
        due.answer("$[:][?@]", MANY);
        due.answer("$[*].a.b.c", MANY);
        due.anew("[" + zeros(41) + "]");
        due.answer("$[*]", 1);
        due.answer("$[*][*].a", MANY);
        due.answer("$[*][1:].a", 0);
    }

    private static void rowsInConditions() {
        due.sentence("A row (.. of one within a condition) that would get more than 40 nodes");
        due.anew("[" + zeros(41) + "]");
        String[] conditions = {"@#", "!@#", "(@#)", "!(@#)", "count(@#)==1", "1<count(@#)", "value(@#)==1",
            "value(@#.a)==1", "length(value(@#))==1", "@#.a", "@#||@", "@#&&@.a", "!@||@#", "@&&@#", "$[?@#]"};
        for (String condition : conditions) {
            due.answer("$[?" + condition.replace("#", "[*]") + "]", MANY);
            due.answer("$[?" + condition.replace("#", "..*") + "]", MANY);
            due.anew("[" + zeros(40) + "]");
            due.same("select() of " + condition, due.select("$[?" + condition.replace("#", "[*]") + "]") >= 0, true);
            due.anew("[" + zeros(41) + "]");
        }
        due.answer("$[?count(@[1:])==40]", 1);
    }

    private static void rowsBeginAnew() {
        due.sentence("A row that would get more than 40 nodes: each row has its own 40");
        due.anew("[" + zeros(16) + "," + zeros(16) + "," + zeros(16) + "]");
        due.answer("$[?count(@.*)==16]", 3);
        due.answer("$[?count(@.*)==count($[0].*)&&count(@.*)==count($[1].*)]", 3);
        due.anew(zeros(40));
        due.answer("$[?count($[*])==40]", 40);
        due.anew("[" + zeros(40) + "]");
        due.answer("$[0][*]", 40);
        due.same("select() again", due.select("$[0][*]"), 40);
        due.same("select() of too many", due.select("$[0][*,0]"), MANY);
        due.same("select() behind it", due.select("$[0][*]"), 40);
    }

    private static void triesOfOneFilterAfterAnother() {
        due.sentence("the 1001st child that conditions are tried on in all, ends all of select() with MANY");
        due.anew(zeros(50));
        due.answer("$[" + "?!@,".repeat(19) + "?!@]", 0);
        due.same("select() once more: tries begin anew", due.select("$[" + "?!@,".repeat(19) + "?!@]"), 0);
        due.answer("$[" + "?!@,".repeat(20) + "?!@]", MANY);
        due.anew("[[]" + ",0".repeat(49) + "]");
        due.answer("$[" + "?!@,".repeat(20) + "0][?@]", 0);
        due.anew("[[0]" + ",0".repeat(49) + "]");
        due.answer("$[" + "?!@,".repeat(20) + "0]", 1);
        due.answer("$[" + "?!@,".repeat(20) + "0][0]", 1);
        due.answer("$[" + "?!@,".repeat(20) + "0][?@]", MANY);
        due.answer("$[" + "?!@,".repeat(20) + "0][?!@]", MANY);
        due.answer("$[0,0][?@][?@]", 0);
    }

    private static void triesInFilters() {
        due.sentence("the 1001st child .. in all: those of filters within filters too");
        due.anew("[" + zeros(8) + ",0".repeat(30) + "]");
        due.answer("$[?$[?!@]]", 0);
        due.answer("$[?!$[?!@],0][?@]", MANY);
        due.answer("$[?$[?!@],0][?@]", 8);
        due.answer("$[?$[?!@],0,0][?@]", MANY);
        due.anew("[" + zeros(9) + ",0".repeat(30) + "]");
        due.answer("$[?$[?!@],0][?@]", MANY);
        due.answer("$[?$[?!@],1][?@]", 0);
        due.anew(zeros(32));
        due.answer("$[?$[?!@]]", MANY);
        due.answer("$[?count($[?!@])==1]", MANY);
        due.answer("$[?value($[?!@])==1]", MANY);
        due.answer("$[?@.a||$[?!@]]", MANY);
        due.anew("[" + zeros(10) + "]");
        due.answer("$[?@[?$[0][?$[0][?!@]]]]", MANY);
        due.anew("[" + zeros(9) + "]");
        due.answer("$[?@[?$[0][?$[0][?!@]]]]", 0);
    }

    private static void triesDeepDown() {
        due.sentence("the 1001st child .. in all: those with .. too");
        due.anew("[[0]" + ",0".repeat(48) + "]");
        due.answer("$..[" + "?!@,".repeat(19) + "?!@]", 0);
        due.anew("[[0,0]" + ",0".repeat(48) + "]");
        due.answer("$..[" + "?!@,".repeat(19) + "?!@]", MANY);
        due.answer("$..[" + "?!@,".repeat(18) + "?!@]", 0);
    }

    private static void triesThatAreNotMade() {
        due.sentence("What stands before || or && is looked at first; the rest only when it counts");
        due.anew(zeros(40));
        due.answer("$[?@||$[?!@]]", 40);
        due.answer("$[?!@&&$[?!@]]", 0);
        due.answer("$[?$[?!@]||@]", MANY);
        due.answer("$[?$[?!@]&&!@]", MANY);
        due.answer("$[?!@||$[?!@]]", MANY);
        due.answer("$[?@&&$[?!@]]", MANY);
        due.answer("$[?@||@||$[?!@]]", 40);
        due.answer("$[?!@||@||$[?!@]]", 40);
        due.answer("$[?@&&!@&&$[?!@]]", 0);
        due.answer("$[?!@&&$[?!@]||@]", 40);
        due.answer("$[?@||$[?!@]&&@]", 40);
        due.answer("$[?(@||$[?!@])&&!@]", 0);
        due.answer("$[?!(!@&&$[?!@])]", 40);
        due.anew("[" + zeros(41) + "]");
        due.answer("$[?@||@[*]]", 1);
        due.answer("$[?@[*]||@]", MANY);
        due.answer("$[?!@&&@[*]]", 0);
        due.answer("$[?@[*]&&!@]", MANY);
    }
}

/**
 * The boundary cases that the terms name for conditions, paths and written values: each sentence has a
 * method of its own.
 */
public final class ConditionBoundaryTest {
    private static final String ALL = "$[0] $[1] $[2]";
    private static final Due due = new Due();

    public static void main(String[] args) {
        testsHold();
        singlesWithNoNode();
        lengthsOfStrings();
        lengthsOfArraysAndObjects();
        lengthsOfOthers();
        counts();
        values();
        bothNothing();
        oneNothing();
        sameNumbers();
        sameStrings();
        sameTruths();
        sameArrays();
        sameObjects();
        differentKinds();
        lessNumbers();
        lessStrings();
        lessOthers();
        turnedRound();
        pathOfTheWhole();
        pathSteps();
        pathEscapes();
        writtenNumbers();
        writtenStrings();
        writtenWithoutSpaces();
        due.end();
    }

    private static void testsHold() {
        due.sentence("A test holds when its query gives a node");
        due.anew("[[],[null],[false,0]]");
        due.paths("$[?@]", ALL);
        due.paths("$[?@[0]]", "$[1] $[2]");
        due.paths("$[?@[1]]", "$[2]");
        due.paths("$[?@[2]]", "");
        due.paths("$[?@.*]", "$[1] $[2]");
        due.paths("$[?!@.*]", "$[0]");
        due.paths("$[?$[2][0]]", ALL);
    }

    private static void singlesWithNoNode() {
        due.sentence("a single gives the value of its node, NOTHING when there is none");
        due.anew("[{\"a\":null},{},[]]");
        due.paths("$[?@.a==null]", "$[0]");
        due.paths("$[?@.a!=null]", "$[1] $[2]");
        due.paths("$[?@.a==@.none]", "$[1] $[2]");
        due.paths("$[?@[0]==@[-1]]", ALL);
        due.paths("$[?$[3]==$[-4]]", ALL);
        due.paths("$[?$[2]==$[-1]]", ALL);
        due.paths("$[?@.a.b.c==false]", "");
        due.paths("$[?@.a==0]", "");
        due.paths("$[?@.a=='']", "");
    }

    private static void lengthsOfStrings() {
        due.sentence("length how many characters a string .. has");
        due.anew("[\"\",\"a\",\"\\n\\\\\"]");
        due.paths("$[?length(@)==0]", "$[0]");
        due.paths("$[?length(@)==1]", "$[1]");
        due.paths("$[?length(@)==2]", "$[2]");
        due.paths("$[?length('')==0&&length('\\'')==1&&length(\"\\\"\")==1]", ALL);
        due.anew("[\"" + "a".repeat(116) + "\"]");
        due.paths("$[?length(@)==116]", "$[0]");
    }

    private static void lengthsOfArraysAndObjects() {
        due.sentence("length how many .. items an array, members an object has");
        due.anew("[[],{},[[1,2]],{\"a\":{\"b\":1,\"c\":2}},[0,0],{\"a\":0,\"b\":0}]");
        due.paths("$[?length(@)==0]", "$[0] $[1]");
        due.paths("$[?length(@)==1]", "$[2] $[3]");
        due.paths("$[?length(@)==2]", "$[4] $[5]");
        due.paths("$[?length($)==6]", "$[0] $[1] $[2] $[3] $[4] $[5]");
        due.anew("[" + "0,".repeat(57) + "[]]");
        due.paths("$[?length($)==58&&length(@)==0]", "$[57]");
    }

    private static void lengthsOfOthers() {
        due.sentence("NOTHING for others");
        due.anew("[null,true,0]");
        due.paths("$[?length(@)==0]", "");
        due.paths("$[?length(@)>=0]", "");
        due.paths("$[?length(@)==@.none]", ALL);
        due.paths("$[?length(@.none)==@.none]", ALL);
        due.paths("$[?length(length(''))==@.none]", ALL);
        due.paths("$[?length(false)==length(12)]", ALL);
        due.paths("$[?length(null)==null]", "");
    }

    private static void counts() {
        due.sentence("count how many nodes");
        due.anew("[[],[0],[0,0]]");
        due.paths("$[?count(@.*)==0]", "$[0]");
        due.paths("$[?count(@.*)==1]", "$[1]");
        due.paths("$[?count(@.*)==2]", "$[2]");
        due.paths("$[?count(@)==1]", ALL);
        due.paths("$[?count(@[0,0])==2]", "$[1] $[2]");
        due.paths("$[?count(@.none)==@.none]", "");
        due.paths("$[?count($..*)==6]", ALL);
    }

    private static void values() {
        due.sentence("value the value of the one node, NOTHING when there is none or more than one");
        due.anew("[[],[7],[7,7]]");
        due.paths("$[?value(@.*)==7]", "$[1]");
        due.paths("$[?value(@.*)!=7]", "$[0] $[2]");
        due.paths("$[?value(@.*)==@.none]", "$[0] $[2]");
        due.paths("$[?value(@[0,0])==7]", "");
        due.paths("$[?value(@[:1])==7]", "$[1] $[2]");
        due.paths("$[?value(@)==$[1]]", "$[1]");
    }

    private static void bothNothing() {
        due.sentence("== holds when both are nothing; <= when < or == does");
        due.anew("[0,0,0]");
        due.paths("$[?@.a==@.b]", ALL);
        due.paths("$[?@.a!=@.b]", "");
        due.paths("$[?@.a<@.b]", "");
        due.paths("$[?@.a>@.b]", "");
        due.paths("$[?@.a<=@.b]", ALL);
        due.paths("$[?@.a>=@.b]", ALL);
    }

    private static void oneNothing() {
        due.sentence("NOTHING is no number, string, truth, null, array or object");
        String[] literals = {"0", "''", "null", "false", "$", "$[0]"};
        due.anew("[[],0,0]");
        for (String literal : literals) {
            due.paths("$[?@.a==" + literal + "]", "");
            due.paths("$[?" + literal + "==@.a]", "");
            due.paths("$[?@.a!=" + literal + "]", ALL);
            due.paths("$[?" + literal + "!=@.a]", ALL);
            for (String sign : new String[] {"<", "<=", ">", ">="}) {
                due.paths("$[?@.a" + sign + literal + "]", "");
                due.paths("$[?" + literal + sign + "@.a]", "");
            }
        }
    }

    private static void sameNumbers() {
        due.sentence("== holds when both are .. the same number");
        due.anew("[999999999.999,-999999999.999,0.001,1,1.0,-0,1.1,1.100,1.01,-1,1.001,10]");
        due.paths("$[?@==999999999.999]", "$[0]");
        due.paths("$[?@==-999999999.999]", "$[1]");
        due.paths("$[?@==999999999.998]", "");
        due.paths("$[?@==0.001]", "$[2]");
        due.paths("$[?@==1.000]", "$[3] $[4]");
        due.paths("$[?@==0]", "$[5]");
        due.paths("$[?@==1.1]", "$[6] $[7]");
        due.paths("$[?@==1.010]", "$[8]");
        due.paths("$[?@==-1.0]", "$[9]");
    }

    private static void sameStrings() {
        due.sentence("== holds when both are .. the same .. string");
        due.anew("[\"\",\"a\",\"A\",\"aa\",\"a \",\"\\/\",\"\\n\",\"n\"]");
        due.paths("$[?@=='']", "$[0]");
        due.paths("$[?@=='a']", "$[1]");
        due.paths("$[?@=='A']", "$[2]");
        due.paths("$[?@=='aa']", "$[3]");
        due.paths("$[?@=='a ']", "$[4]");
        due.paths("$[?@=='/']", "$[5]");
        due.paths("$[?@=='\\n']", "$[6]");
    }

    private static void sameTruths() {
        due.sentence("== holds when both are .. the same .. truth or null");
        due.anew("[true,false,null]");
        due.paths("$[?@==true]", "$[0]");
        due.paths("$[?@==false]", "$[1]");
        due.paths("$[?@==null]", "$[2]");
        due.paths("$[?@!=true]", "$[1] $[2]");
        due.paths("$[?@!=null]", "$[0] $[1]");
    }

    private static void sameArrays() {
        due.sentence("arrays of the same items in their order");
        due.anew("[[],[[]],[1,2],[2,1],[1],[1,2,3],[1,2.0],[{}],[1,[2]]]");
        due.paths("$[?@==$[0]]", "$[0]");
        due.paths("$[?@==$[1]]", "$[1]");
        due.paths("$[?@==$[2]]", "$[2] $[6]");
        due.paths("$[?@==$[4]]", "$[4]");
        due.paths("$[?@==$[5]]", "$[5]");
        due.paths("$[?@==$[8]]", "$[8]");
        due.anew("[[[[[[]]]]],[[[[{}]]]],[[[[[]]]]],[[[[]]]]]");
        due.paths("$[?@==$[0]]", "$[0] $[2]");
        due.paths("$[?$==$]", "$[0] $[1] $[2] $[3]");
        due.anew("[[[[[0]]]],[[[[1]]]],[[[[0]]]]]");
        due.paths("$[?@==$[2]]", "$[0] $[2]");
        due.paths("$[?$==$]", ALL);
    }

    private static void sameObjects() {
        due.sentence("objects with the same names and the same value for each");
        due.anew("[{},{\"a\":1,\"b\":2},{\"b\":2,\"a\":1},{\"a\":2,\"b\":1},{\"a\":1},{\"a\":1,\"b\":2,\"c\":3},{\"a\":1,\"c\":2},{\"\":1}]");
        due.paths("$[?@==$[0]]", "$[0]");
        due.paths("$[?@==$[1]]", "$[1] $[2]");
        due.paths("$[?@==$[3]]", "$[3]");
        due.paths("$[?@==$[4]]", "$[4]");
        due.paths("$[?@==$[5]]", "$[5]");
        due.paths("$[?@==$[6]]", "$[6]");
        due.anew("[{\"a\":{\"b\":{\"c\":{\"d\":{}}}}},{\"a\":{\"b\":{\"c\":{\"d\":{}}}}},{\"a\":{\"b\":{\"c\":{\"e\":{}}}}}]");
        due.paths("$[?@==$[0]]", "$[0] $[1]");
        due.paths("$[?$==$]", ALL);
    }

    private static void differentKinds() {
        due.sentence("== of different kinds does not hold; != when == does not");
        due.anew("[null,false,true,0,\"\",[],{},\"0\",\"null\",[0]]");
        for (int k = 0; k < 10; k++) {
            due.paths("$[?@==$[" + k + "]]", "$[" + k + "]");
            due.answer("$[?@!=$[" + k + "]]", 9);
            due.answer("$[?@<=$[" + k + "]]", k == 7 || k == 8 ? k - 5 : 1);
        }
    }

    private static void lessNumbers() {
        due.sentence("< holds for two numbers, the first being less");
        due.anew("[-999999999.999,-1,-0.001,0,0.001,1,999999999.999]");
        due.paths("$[?@<0]", "$[0] $[1] $[2]");
        due.paths("$[?@<=0]", "$[0] $[1] $[2] $[3]");
        due.paths("$[?@>0]", "$[4] $[5] $[6]");
        due.paths("$[?@>=0]", "$[3] $[4] $[5] $[6]");
        due.paths("$[?@<-999999999.999]", "");
        due.paths("$[?@<=-999999999.999]", "$[0]");
        due.paths("$[?@>999999999.998]", "$[6]");
        due.paths("$[?@<-1]", "$[0]");
        due.paths("$[?@<-0.001]", "$[0] $[1]");
    }

    private static void lessStrings() {
        due.sentence("and for two strings, the first coming before the second by their codes, a beginning before what is longer");
        due.anew("[\"\",\" \",\"0\",\"A\",\"Z\",\"a\",\"aa\",\"ab\",\"b\",\"~\"]");
        due.paths("$[?@<'']", "");
        due.paths("$[?@<=\"\"]", "$[0]");
        due.paths("$[?@<'A']", "$[0] $[1] $[2]");
        due.paths("$[?@<'a']", "$[0] $[1] $[2] $[3] $[4]");
        due.paths("$[?@>'a']", "$[6] $[7] $[8] $[9]");
        due.paths("$[?@>='aa']", "$[6] $[7] $[8] $[9]");
        due.paths("$[?@>'aa'&&@<'b']", "$[7]");
        due.paths("$[?@>'~']", "");
        due.paths("$[?'a'<'aa'&&'aa'<'ab'&&'ab'<'b'&&!('b'<'ab')&&@=='']", "$[0]");
    }

    private static void lessOthers() {
        due.sentence("< holds for two numbers and for two strings (and no others)");
        due.anew("[null,false,true,0,\"\",[],{},[0],{\"a\":0}]");
        String[] others = {"null", "false", "true", "$[5]", "$[6]", "$[7]", "$[8]", "@.none"};
        for (String other : others) {
            due.paths("$[?@<" + other + "]", "");
            due.paths("$[?@>" + other + "]", "");
            due.paths("$[?" + other + "<@]", "");
        }
        due.paths("$[?@<1]", "$[3]");
        due.paths("$[?@<'a']", "$[4]");
        due.paths("$[?false<true||null<0||0<'0'||'0'<1||$[5]<$[7]]", "");
    }

    private static void turnedRound() {
        due.sentence("<= when < or == does; a > b and a >= b as b < a and b <= a");
        due.anew("[1,2,3]");
        due.paths("$[?@<2]", "$[0]");
        due.paths("$[?@<=2]", "$[0] $[1]");
        due.paths("$[?@>2]", "$[2]");
        due.paths("$[?@>=2]", "$[1] $[2]");
        due.paths("$[?true<=true&&null>=null]", ALL);
        due.paths("$[?$<=$&&$>=$]", ALL);
        due.paths("$[?true<=false||false>=true]", "");
    }

    private static void pathOfTheWhole() {
        due.sentence("The PATH of a node is $");
        for (String document : new String[] {"0", "[]", "{\"a\":0}"}) {
            due.anew(document);
            due.paths("$", "$");
        }
    }

    private static void pathSteps() {
        due.sentence("and for each step down to it [', the name, '] or [, the place, ]");
        due.anew("[[[[[7]]]]]");
        due.paths("$..[?@==7]", "$[0][0][0][0][0]");
        due.anew("{\"a\":[{\"\":[{\"b c\":7}]}]}");
        due.paths("$..[?@==7]", "$['a'][0][''][0]['b c']");
        due.anew("[" + "0,".repeat(58) + "7]");
        due.paths("$[?@==7]", "$[58]");
        due.paths("$[8:11]", "$[8] $[9] $[10]");
        due.paths("$[-1,-50]", "$[58] $[9]");
        due.anew("{\"0\":7}");
        due.paths("$.*", "$['0']");
    }

    private static void pathEscapes() {
        due.sentence("in a name ' and \\ have a \\ before them, and the codes 8, 12, 10, 13, 9 are \\b \\f \\n \\r \\t");
        due.anew("{\"'\":0,\"\\\\\":0,\"\\b\":0,\"\\f\":0,\"\\n\":0,\"\\r\":0,\"\\t\":0,\"\\\"\":0,\"\\/\":0}");
        due.paths("$.*", "$['\\''] $['\\\\'] $['\\b'] $['\\f'] $['\\n'] $['\\r'] $['\\t'] $['\"'] $['/']");
        for (char c = 32; c <= 126; c++) {
            if (c != '"' && c != '\\' && c != '\'') {
                due.anew("{\"" + c + "\":0}");
                due.paths("$.*", "$['" + c + "']");
            }
        }
        due.anew("{\"" + "'".repeat(114) + "\":0}");
        due.paths("$.*", "$['" + "\\'".repeat(114) + "']");
        due.anew("{\"" + "\\\\".repeat(57) + "\":0}");
        due.paths("$.*", "$['" + "\\\\".repeat(57) + "']");
    }

    private static void writtenNumbers() {
        due.sentence("a number with no more digits than it needs (0 without a minus sign)");
        due.anew("[0,-0,0.000,-0.000,1.0,-1.00,1.10,1.100,0.010,-0.001,10,100.0,999999999.990,-999999999.999,0.1,-0.5]");
        due.values("$[*]", "0 0 0 0 1 -1 1.1 1.1 0.01 -0.001 10 100 999999999.99 -999999999.999 0.1 -0.5");
        due.values("$", "[0,0,0,0,1,-1,1.1,1.1,0.01,-0.001,10,100,999999999.99,-999999999.999,0.1,-0.5]");
        due.anew("[1.001,1.011,1.111,1.101,100.001,1000,1000.5,100000000]");
        due.values("$[*]", "1.001 1.011 1.111 1.101 100.001 1000 1000.5 100000000");
    }

    private static void writtenStrings() {
        due.sentence("in strings \" and \\ with a \\ before them, and those codes likewise");
        due.anew("[\"\",\"\\\"\",\"\\\\\",\"\\/\",\"\\b\",\"\\f\",\"\\n\",\"\\r\",\"\\t\",\"'\",{\"\\\"\":\"\\\\\",\"'\":\"\\n\",\"\\t\":\"\"}]");
        due.values("$[*]", "\"\" \"\\\"\" \"\\\\\" \"/\" \"\\b\" \"\\f\" \"\\n\" \"\\r\" \"\\t\" \"'\""
            + " {\"\\\"\":\"\\\\\",\"'\":\"\\n\",\"\\t\":\"\"}");
    }

    private static void writtenWithoutSpaces() {
        due.sentence("A value is WRITTEN as a document without spaces");
        due.anew(" [ ] ");
        due.values("$", "[]");
        due.anew(" { } ");
        due.values("$", "{}");
        due.anew(" [ null , { \" a \" : [ ] , \"b\" : { } } , true , [ false , \" \" ] ] ");
        due.values("$", "[null,{\" a \":[],\"b\":{}},true,[false,\" \"]]");
        due.anew("[[[[[[]]]]]]");
        due.values("$", "[[[[[[]]]]]]");
        due.anew("[[[[[{},7,[]]]]]]");
        due.values("$", "[[[[[{},7,[]]]]]]");
        due.values("$[0]", "[[[[{},7,[]]]]]");
    }
}

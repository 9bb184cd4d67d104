/** The boundary cases that the terms name for the form of queries: each sentence has a method of its own. */
public final class QueryBoundaryTest {
    private static final Due due = new Due();

    public static void main(String[] args) {
        faultAtAPlace();
        faultAtTheLength();
        segmentsNoneOrSome();
        noSpaces();
        firstOfAWord();
        restOfAWord();
        deepSegments();
        selectorsAtLeastOne();
        doubleQuotes();
        singleQuotes();
        escapesInQueries();
        digitsOfPlaces();
        signsOfPlaces();
        slices();
        placesOfSlices();
        ands();
        basics();
        denials();
        signs();
        tests();
        literals();
        singles();
        calls();
        depth();
        due.end();
    }

    private static void faultAtAPlace() {
        due.sentence("the place of the first character with which the text .. is not the beginning; places count from 0");
        due.anew("[]");
        due.queryFault("x", 0);
        due.queryFault("@", 0);
        due.queryFault("x$", 0);
        due.queryFault("$x", 1);
        due.queryFault("$xx", 1);
        due.queryFault("$['" + "a".repeat(114) + "']x", 119);
        due.queryFault("x".repeat(120), 0);
        due.queryFault("$" + ".a".repeat(59) + "]", 119);
    }

    private static void faultAtTheLength() {
        due.sentence("its length when there is none, but the text is none");
        due.anew("[]");
        due.queryFault("", 0);
        due.queryFault("$.", 2);
        due.queryFault("$..", 3);
        due.queryFault("$[", 2);
        due.queryFault("$[0", 3);
        due.queryFault("$[?@", 4);
        due.queryFault("$['" + "a".repeat(116), 119);
        due.queryFault("$['" + "a".repeat(117), 120);
        due.queryFault("$" + ".a".repeat(59) + ".", 120);
    }

    private static void segmentsNoneOrSome() {
        due.sentence("A QUERY is $ and SEGMENTS, none or some");
        due.anew("[]");
        due.answer("$", 1);
        due.answer("$.a", 0);
        due.answer("$" + ".*".repeat(59), 0);
        due.answer("$" + ".a".repeat(58) + ".aa", 0);
        due.answer("$" + "[0]".repeat(39), 0);
        due.answer("$..*..a.a[0].*..[0]", 0);
        due.queryFault("$$", 1);
        due.queryFault("", 0);
    }

    /** A space at each place of a query, but for its strings, is a fault right there. */
    private static void noSpaces() {
        due.sentence("no spaces but in strings");
        due.anew("{\" a \":1}");
        due.answer("$[' a ']", 1);
        due.answer("$[\" a \"]", 1);
        due.answer("$[?@!=' ']", 1);
        String[] queries = {"$.ab..c.*..*", "$[0,-12,1:2:3]", "$..[*,:]", "$[?(!@.a&&!(@<=1)||$[0]!=null)]",
            "$[?length(true)==count($)]", "$[?value(@..*)>=-1.5]"};
        for (String query : queries) {
            for (int p = 0; p < query.length(); p++) {
                due.queryFault(query.substring(0, p) + " " + query.substring(p), p);
            }
            due.queryFault(query + " ", query.length());
        }
    }

    private static boolean isLetter(char c) {
        return "abcdefghijklmnopqrstuvwxyzABCDEFGHIJKLMNOPQRSTUVWXYZ_".indexOf(c) >= 0;
    }

    private static void firstOfAWord() {
        due.sentence("A word is a letter or _");
        for (char c = 32; c <= 126; c++) {
            if (isLetter(c)) {
                due.anew("{\"" + c + "\":1,\"" + c + c + "\":2}");
                due.values("$." + c, "1");
                due.values("$.." + c, "1");
            } else if (c != '*' && c != '.') {
                due.anew("[]");
                due.queryFault("$." + c, 2);
                due.queryFault("$.." + c, c == '[' ? 4 : 3);
            }
        }
    }

    private static void restOfAWord() {
        due.sentence("and any letters, digits and _");
        for (char c = 32; c <= 126; c++) {
            if (isLetter(c) || c >= '0' && c <= '9') {
                due.anew("{\"x" + c + "\":1,\"x\":2,\"x" + c + c + "\":3}");
                due.values("$.x" + c, "1");
                due.values("$..x" + c + c, "3");
            } else if (c != '[' && c != '.') {
                due.anew("[]");
                due.queryFault("$.x" + c, 3);
                due.queryFault("$..x" + c, 4);
            }
        }
        String longest = "x".repeat(115);
        due.anew("{\"" + longest.substring(2) + "\":0}");
        due.answer("$." + longest.substring(2), 1);
        due.answer("$." + "x".repeat(118), 0);
    }

    private static void deepSegments() {
        due.sentence(".. and a word; ..* ; .. and [ ]");
        due.anew("[[7]]");
        due.answer("$..a", 0);
        due.answer("$..*", 2);
        due.answer("$..[0]", 2);
        due.answer("$..[*]", 2);
        due.queryFault("$...a", 3);
        due.queryFault("$..", 3);
        due.queryFault("$...", 3);
        due.queryFault("$.[0]", 2);
        due.queryFault("$..**", 4);
        due.queryFault("$..[]", 4);
    }

    private static void selectorsAtLeastOne() {
        due.sentence("[, SELECTORS, at least one, with commas between, ]");
        due.anew("[7]");
        due.queryFault("$[]", 2);
        due.queryFault("$[,]", 2);
        due.answer("$[0]", 1);
        due.answer("$[0,0]", 2);
        due.answer("$[" + "0,".repeat(39) + "0]", 40);
        due.answer("$[" + "5,".repeat(58) + "5]", 0);
        due.queryFault("$[0,]", 4);
        due.queryFault("$[0,,0]", 4);
        due.queryFault("$[,0]", 2);
        due.queryFault("$[0*]", 3);
        due.queryFault("$[0][]", 5);
    }

    private static void doubleQuotes() {
        due.sentence("a string");
        due.anew("{\"\":1,\"'\":2,\"\\\"\":3,\" \":4}");
        due.values("$[\"\"]", "1");
        due.values("$[\"'\"]", "2");
        due.values("$[\"\\\"\"]", "3");
        due.values("$[\" \"]", "4");
        due.queryFault("$[\"\\'\"]", 4);
        due.queryFault("$[\"']", 5);
        due.queryFault("$[\"\"\"]", 4);
    }

    private static void singleQuotes() {
        due.sentence("' may stand instead of both \" (then \" is itself, ' is not, and \\' stands for ', but \\\" for nothing)");
        due.anew("{\"\":1,\"'\":2,\"\\\"\":3,\" \":4}");
        due.values("$['']", "1");
        due.values("$['\\'']", "2");
        due.values("$['\"']", "3");
        due.values("$[' ']", "4");
        due.queryFault("$['\\\"']", 4);
        due.queryFault("$['\"]", 5);
        due.queryFault("$[''']", 4);
        due.queryFault("$['a\"", 5);
    }

    private static void escapesInQueries() {
        due.sentence("\\ with one of \" \\ / b f n r t behind it, in a query's strings of either quote");
        for (char c = 32; c <= 126; c++) {
            boolean common = "\\/bfnrt".indexOf(c) >= 0;
            due.anew(common ? "{\"\\" + c + "\":1}" : "{}");
            if (common || c == '\'') {
                due.answer("$['\\" + c + "']", common ? 1 : 0);
                due.answer("$[?@=='\\" + c + "']", 0);
            } else {
                due.queryFault("$['\\" + c + "']", 4);
                due.queryFault("$[?1=='\\" + c + "']", 8);
            }
            if (common || c == '"') {
                due.answer("$[\"\\" + c + "\"]", common ? 1 : 0);
                due.answer("$[?@==\"\\" + c + "\"]", 0);
            } else {
                due.queryFault("$[\"\\" + c + "\"]", 4);
                due.queryFault("$[?1==\"\\" + c + "\"]", 8);
            }
        }
    }

    private static void digitsOfPlaces() {
        due.sentence("a PLACE: 0, or .. one to three digits of which the first is not 0");
        due.anew("[7]");
        due.answer("$[0]", 1);
        due.answer("$[1]", 0);
        due.answer("$[10]", 0);
        due.answer("$[100]", 0);
        due.answer("$[999]", 0);
        due.queryFault("$[1000]", 5);
        due.queryFault("$[9999]", 5);
        due.queryFault("$[00]", 3);
        due.queryFault("$[01]", 3);
        due.queryFault("$[1.0]", 3);
        due.queryFault("$[?1==@[1000]]", 11);
        due.queryFault("$[?1==@[00]]", 9);
    }

    private static void signsOfPlaces() {
        due.sentence("a minus sign or none and one to three digits of which the first is not 0");
        due.anew("[7]");
        due.answer("$[-1]", 1);
        due.answer("$[-10]", 0);
        due.answer("$[-999]", 0);
        due.queryFault("$[-1000]", 6);
        due.queryFault("$[-0]", 3);
        due.queryFault("$[-01]", 3);
        due.queryFault("$[-]", 3);
        due.queryFault("$[-", 3);
        due.queryFault("$[--1]", 3);
        due.queryFault("$[+1]", 2);
        due.queryFault("$[?1==@[-0]]", 9);
        due.queryFault("$[?1==@[-1000]]", 12);
    }

    private static void slices() {
        due.sentence("a SLICE: a place or none, :, a place or none, and, if one wants, : and a place or none");
        due.anew("[7]");
        due.answer("$[:]", 1);
        due.answer("$[0:]", 1);
        due.answer("$[:1]", 1);
        due.answer("$[0:1]", 1);
        due.answer("$[::]", 1);
        due.answer("$[0::]", 1);
        due.answer("$[:1:]", 1);
        due.answer("$[::1]", 1);
        due.answer("$[0:1:]", 1);
        due.answer("$[:1:1]", 1);
        due.answer("$[0::1]", 1);
        due.answer("$[0:1:1]", 1);
        due.queryFault("$[:::]", 4);
        due.queryFault("$[0:1:1:]", 7);
        due.queryFault("$[*:]", 3);
        due.queryFault("$['a':]", 5);
        due.queryFault("$[:*]", 3);
    }

    private static void placesOfSlices() {
        due.sentence("a SLICE's places are PLACES too");
        due.anew("[7]");
        due.answer("$[-999:999:999]", 1);
        due.answer("$[999:-999:-999]", 1);
        due.queryFault("$[1000:]", 5);
        due.queryFault("$[:1000]", 6);
        due.queryFault("$[::1000]", 7);
        due.queryFault("$[:-1000]", 7);
        due.queryFault("$[::-1000]", 8);
        due.queryFault("$[-0:]", 3);
        due.queryFault("$[:-0]", 4);
        due.queryFault("$[::-0]", 5);
        due.queryFault("$[00:]", 3);
        due.queryFault("$[:00]", 4);
        due.queryFault("$[::00]", 5);
        due.queryFault("$[:-]", 4);
        due.queryFault("$[::-]", 5);
        due.queryFault("$[:-:]", 4);
    }

    private static void ands() {
        due.sentence("A condition is one or more ANDS with || between");
        due.anew("[7]");
        due.answer("$[?@]", 1);
        due.answer("$[?@||@]", 1);
        due.answer("$[?" + "@||".repeat(38) + "@]", 1);
        due.queryFault("$[?]", 3);
        due.queryFault("$[?||@]", 3);
        due.queryFault("$[?@||]", 6);
        due.queryFault("$[?@|@]", 5);
        due.queryFault("$[?@|", 5);
        due.queryFault("$[?@|||@]", 6);
        due.queryFault("$[?@|&@]", 5);
    }

    private static void basics() {
        due.sentence("an and is one or more BASICS with && between");
        due.anew("[7]");
        due.answer("$[?@&&@]", 1);
        due.answer("$[?" + "@&&".repeat(38) + "@]", 1);
        due.queryFault("$[?&&@]", 3);
        due.queryFault("$[?@&&]", 6);
        due.queryFault("$[?@&@]", 5);
        due.queryFault("$[?@&", 5);
        due.queryFault("$[?@&&&@]", 6);
        due.queryFault("$[?@&&||@]", 6);
    }

    private static void denials() {
        due.sentence("A basic is ( a condition ); ! and ( a condition ); a TEST; ! and a test; or a comparison");
        due.anew("[7]");
        due.answer("$[?(@)]", 1);
        due.answer("$[?!(@)]", 0);
        due.answer("$[?@]", 1);
        due.answer("$[?!@]", 0);
        due.answer("$[?!@.a]", 1);
        due.answer("$[?@==7]", 1);
        due.answer("$[?!(@==7)]", 0);
        due.queryFault("$[?!@==7]", 5);
        due.queryFault("$[?!7==@]", 4);
        due.queryFault("$[?!!@]", 4);
        due.queryFault("$[?()]", 4);
        due.queryFault("$[?!()]", 5);
        due.queryFault("$[?(@]", 5);
        due.queryFault("$[?(@))]", 6);
        due.queryFault("$[?(@)(@)]", 6);
        due.queryFault("$[?(7)]", 5);
        due.queryFault("$[?(7)==7]", 5);
        due.queryFault("$[?(@)==7]", 6);
    }

    private static void signs() {
        due.sentence("two OPERANDS with == != < <= > or >= between");
        due.anew("[7]");
        due.answer("$[?1==1]", 1);
        due.answer("$[?1!=1]", 0);
        due.answer("$[?1<1]", 0);
        due.answer("$[?1<=1]", 1);
        due.answer("$[?1>1]", 0);
        due.answer("$[?1>=1]", 1);
        due.queryFault("$[?1=1]", 5);
        due.queryFault("$[?1!1]", 5);
        due.queryFault("$[?1===1]", 6);
        due.queryFault("$[?1!==1]", 6);
        due.queryFault("$[?1<==1]", 6);
        due.queryFault("$[?1<<1]", 5);
        due.queryFault("$[?1<>1]", 5);
        due.queryFault("$[?1=<1]", 5);
        due.queryFault("$[?1=>1]", 5);
        due.queryFault("$[?1>>1]", 5);
        due.queryFault("$[?1]", 4);
        due.queryFault("$[?==1]", 3);
        due.queryFault("$[?1==]", 6);
        due.queryFault("$[?1<1<1]", 6);
        due.queryFault("$[?1=", 5);
        due.queryFault("$[?1", 4);
    }

    private static void tests() {
        due.sentence("A test is a query, where @ may stand for $");
        due.anew("[7]");
        due.answer("$[?@]", 1);
        due.answer("$[?$]", 1);
        due.answer("$[?$..*]", 1);
        due.answer("$[?$[*,0:1,?@]]", 1);
        due.answer("$[?@..[*,0:1,?@]]", 0);
        due.queryFault("$[?@@]", 4);
        due.queryFault("$[?$$]", 4);
        due.queryFault("$[?.a]", 3);
        due.queryFault("@[?@]", 0);
    }

    private static void literals() {
        due.sentence("An operand is a value that is null, false, true, a number or a string (with either quote)");
        due.anew("[null,false,true,-1.5,\"a\"]");
        due.paths("$[?@==null]", "$[0]");
        due.paths("$[?@==false]", "$[1]");
        due.paths("$[?@==true]", "$[2]");
        due.paths("$[?@==-1.500]", "$[3]");
        due.paths("$[?@=='a']", "$[4]");
        due.paths("$[?@==\"a\"]", "$[4]");
        due.answer("$[?-999999999.999<@]", 1);
        due.answer("$[?''<\"\"]", 0);
        due.queryFault("$[?1==[]]", 6);
        due.queryFault("$[?1=={}]", 6);
        due.queryFault("$[?nul==1]", 6);
        due.queryFault("$[?1==True]", 6);
        due.queryFault("$[?1==falsee]", 11);
        due.queryFault("$[?1==1234567890]", 15);
        due.queryFault("$[?1==1.2345]", 11);
        due.queryFault("$[?1==01]", 7);
        due.queryFault("$[?1==-]", 7);
        due.queryFault("$[?1==1.]", 8);
        due.queryFault("$[?1=='a]", 9);
        due.queryFault("$[?1=='a\"]", 10);
    }

    private static void singles() {
        due.sentence("a SINGLE: .. all of whose segments are . and a word, or [ ] with one string or one place; (also with none)");
        due.anew("[7]");
        due.answer("$[?@==7]", 1);
        due.answer("$[?$==$]", 1);
        due.answer("$[?7==$[0]]", 1);
        due.answer("$[?$[-1]==@]", 1);
        due.answer("$[?@.a==$.a['b'][\"c\"][0][-1]]", 1);
        String[] segments = {".*", "..a", "..*", "[*]", "[:]", "[0:1]", "[0,0]", "['a','b']", "[?@]", "..[0]"};
        int[] behind = {1, 1, 1, 1, 1, 2, 2, 4, 1, 1};
        for (int k = 0; k < segments.length; k++) {
            int size = segments[k].length();
            due.queryFault("$[?1==@" + segments[k] + "]", 7 + behind[k]);
            due.queryFault("$[?1==$.a" + segments[k] + "]", 9 + behind[k]);
            due.queryFault("$[?@" + segments[k] + "==1]", 4 + size);
            due.queryFault("$[?@" + segments[k] + ".a==1]", 6 + size);
            due.queryFault("$[?@" + segments[k] + "!=1]", 4 + size);
            due.queryFault("$[?length(@" + segments[k] + ")==1]", 11 + behind[k]);
        }
        due.queryFault("$[?1==@[]]", 8);
    }

    private static void calls() {
        due.sentence("length(an operand); count(a test); or value(a test)");
        due.anew("[7]");
        due.answer("$[?length('a')==1]", 1);
        due.answer("$[?1==length('a')]", 1);
        due.answer("$[?length(length('a'))==1]", 0);
        due.answer("$[?" + "length(".repeat(13) + "1" + ")".repeat(13) + "==1]", 0);
        due.answer("$[?length(count(@))==length(value(@))]", 1);
        due.answer("$[?count(@)==1]", 1);
        due.answer("$[?count($..*)==1]", 1);
        due.answer("$[?value($..*)==7]", 1);
        due.queryFault("$[?length()==1]", 10);
        due.queryFault("$[?count()==1]", 9);
        due.queryFault("$[?value()==1]", 9);
        due.queryFault("$[?length(@", 11);
        due.queryFault("$[?length('a'", 13);
        due.queryFault("$[?length(length(1)==1]", 19);
        due.queryFault("$[?length(1))==1]", 12);
        due.queryFault("$[?count(1)==1]", 9);
        due.queryFault("$[?count(length(@))==1]", 9);
        due.queryFault("$[?value('a')==1]", 9);
        due.queryFault("$[?value(value(@))==1]", 9);
        due.queryFault("$[?count(@,@)==1]", 10);
        due.queryFault("$[?length(@,@)==1]", 11);
        due.queryFault("$[?value(@&&@)==1]", 10);
        due.queryFault("$[?length(@)]", 12);
        due.queryFault("$[?count(@)]", 11);
        due.queryFault("$[?value(@)]", 11);
        due.queryFault("$[?length@==1]", 9);
        due.queryFault("$[?Length(@)==1]", 3);
    }

    private static void depth() {
        due.sentence("Conditions lie in one another at most 4 deep, those of filters within filters too");
        due.anew("[7]");
        due.answer("$[?@==7]", 1);
        due.answer("$[?(((@==7)))]", 1);
        due.queryFault("$[?((((@==7))))]", 6);
        due.answer("$[?!(!(!(@==7)))]", 0);
        due.queryFault("$[?!(!(!(!(@==7))))]", 10);
        due.answer("$[?$[?$[?$[?@]]]]", 1);
        due.queryFault("$[?$[?$[?$[?$[?@]]]]]", 14);
        due.answer("$[?($[?($[0])])]", 1);
        due.queryFault("$[?($[?($[?@])])]", 10);
        due.queryFault("$[?($[?(($[0]))])]", 8);
        due.queryFault("$[?$[?$[?$[?(@)]]]]", 12);
        due.queryFault("$[?$[?$[?$[?!(@)]]]]", 13);
        due.answer("$[?$[?$[?$[?!@]]]]", 0);
        due.answer("$[?count($[?count($[?count($[?@])==1])==1])==1]", 1);
        due.queryFault("$[?count($[?count($[?count($[?value($[?@])", 38);
        due.answer("$[?(((@)))&&(((@)))||(((@)))][?(((@)))]", 0);
        due.answer("$[?(((@))),?(((@)))]", 2);
        due.queryFault("$[?(((@)))||((((@", 15);
    }
}

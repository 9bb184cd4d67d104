/** The boundary cases that the terms name for documents: each sentence has a method of its own. */
public final class DocumentBoundaryTest {
    private static final String ESCAPES = "\"\\/bfnrt";
    private static final Due due = new Due();

    public static void main(String[] args) {
        faultAtAPlace();
        faultAtTheLength();
        spacesRoundTheValue();
        items();
        members();
        sameNames();
        spacesRoundSigns();
        noOtherSpaces();
        depth();
        depthOfSiblings();
        minusSigns();
        wholeDigits();
        firstDigits();
        minusZero();
        digitsBehindThePoint();
        charactersOfStrings();
        escapes();
        codesOfEscapes();
        due.end();
    }

    private static void faultAtAPlace() {
        due.sentence("the place of the first character with which the text .. is not the beginning; places count from 0");
        due.documentFault("x", 0);
        due.documentFault("x1", 0);
        due.documentFault("1x", 1);
        due.documentFault("1xx", 1);
        due.documentFault("[1,x,y", 3);
        due.documentFault(" ".repeat(118) + "x", 118);
        due.documentFault(" ".repeat(119) + "x", 119);
        due.documentFault("\"" + "a".repeat(117) + "\"x", 119);
        due.documentFault("x" + " ".repeat(119), 0);
    }

    private static void faultAtTheLength() {
        due.sentence("its length when there is none, but the text is none");
        due.documentFault("", 0);
        due.documentFault(" ", 1);
        due.documentFault("-", 1);
        due.documentFault("\"", 1);
        due.documentFault("[[1]", 4);
        due.documentFault("\"" + "a".repeat(118), 119);
        due.documentFault("\"" + "a".repeat(119), 120);
        due.documentFault("[" + "0,".repeat(59) + "0", 120);
        due.documentFault(" ".repeat(120), 120);
    }

    private static void spacesRoundTheValue() {
        due.sentence("A DOCUMENT is a VALUE, with any spaces before and behind it");
        due.document("1", 1);
        due.document(" 1", 1);
        due.document("1 ", 1);
        due.document(" ".repeat(119) + "1", 1);
        due.document("1" + " ".repeat(119), 1);
        due.document(" ".repeat(58) + "[]" + " ".repeat(60), 1);
        due.documentFault("1 1", 2);
    }

    private static void items() {
        due.sentence("an ARRAY: [, no values or some with commas between, ]");
        due.document("[]", 1);
        due.document("[0]", 2);
        due.document("[0,0]", 3);
        due.document("[" + "0,".repeat(58) + "0]", 60);
        due.document("[" + "[],".repeat(38) + "[]]", 40);
        due.documentFault("[,]", 1);
        due.documentFault("[0,]", 3);
        due.documentFault("[,0]", 1);
        due.documentFault("[0,,0]", 3);
        due.documentFault("[0[]]", 2);
        due.documentFault("[]]", 2);
    }

    private static void members() {
        due.sentence("an OBJECT: {, no MEMBERS or some with commas between, }; a member is a string, then :, then a value");
        due.document("{}", 1);
        due.document("{\"\":0}", 2);
        due.document("{\"a\":0,\"b\":0}", 3);
        StringBuilder most = new StringBuilder("{\"\":0");
        for (char c = 'a'; c <= 's'; c++) {
            most.append(",\"").append(c).append("\":0");
        }
        due.document(most.append('}').toString(), 21);
        due.documentFault("{,}", 1);
        due.documentFault("{\"a\":0,}", 7);
        due.documentFault("{\"a\":0,,", 7);
        due.documentFault("{\"a\"0}", 4);
        due.documentFault("{\"a\"::0}", 5);
        due.documentFault("{\"a\":0:", 6);
        due.documentFault("{0:0}", 1);
        due.documentFault("{null:0}", 1);
        due.documentFault("{[", 1);
        due.documentFault("{}}", 2);
    }

    private static void sameNames() {
        due.sentence("no two members of an object have the same name");
        due.documentFault("{\"a\":0,\"a\":0}", 9);
        due.documentFault("{\"a\":0,\"a\"", 9);
        due.documentFault("{\"a\":0,\"a", 9);
        due.documentFault("{\"a\":0,\"b\":0,\"a\":0}", 15);
        due.documentFault("{\"b\":0,\"a\":0,\"a\":0}", 15);
        due.documentFault("{\"\":0,\"\":0}", 7);
        due.documentFault("{\"a\":{},\"a\":{}}", 10);
        due.documentFault("[{\"ab\":0,\"ab\":0}]", 12);
        due.documentFault("{\"/\":0,\"\\/\":0}", 10);
        due.document("{\"a\":0,\"A\":0,\"aa\":0,\"\":0,\" \":0,\"a \":0}", 7);
        due.document("{\"\\n\":0,\"n\":0,\"\\\\n\":0}", 4);
        due.document("{\"a\":{\"a\":0,\"b\":0},\"b\":{\"a\":0,\"b\":0}}", 7);
        due.document("[{\"a\":0},{\"a\":0}]", 5);
    }

    private static void spacesRoundSigns() {
        due.sentence("Spaces may stand before and behind each [ ] { } , and :");
        due.document(" [0,{\"a\":0}]", 4);
        due.document("[ 0,{\"a\":0}]", 4);
        due.document("[0 ,{\"a\":0}]", 4);
        due.document("[0, {\"a\":0}]", 4);
        due.document("[0,{ \"a\":0}]", 4);
        due.document("[0,{\"a\" :0}]", 4);
        due.document("[0,{\"a\": 0}]", 4);
        due.document("[0,{\"a\":0 }]", 4);
        due.document("[0,{\"a\":0} ]", 4);
        due.document("[0,{\"a\":0}] ", 4);
        due.document("{\"a\":0 ,\"b\":0}", 3);
        due.document("{\"a\":0, \"b\":0}", 3);
        due.document("[[ ] ,{ } , 0]", 4);
        due.document("   [   0   ,   {   \"a\"   :   0   }   ]   ", 4);
        due.document("[" + " ".repeat(118) + "]", 1);
        due.document("{" + " ".repeat(118) + "}", 1);
    }

    private static void noOtherSpaces() {
        due.sentence("Spaces may stand before and behind each [ ] { } , and : (and nowhere else)");
        due.documentFault("nu ll", 2);
        due.documentFault("- 1", 1);
        due.documentFault("1 0", 2);
        due.documentFault("1 .0", 2);
        due.documentFault("1. 0", 2);
        due.documentFault("1.0 0", 4);
        due.documentFault("[0 0]", 3);
        due.documentFault("{\"a\" \"b\"", 5);
        due.documentFault("\"\\ n\"", 2);
    }

    private static void depth() {
        due.sentence("Values lie in one another at most 6 deep (the whole is 1 deep)");
        due.document("[[[[[0]]]]]", 6);
        due.document("[[[[[\"\"]]]]]", 6);
        due.document("[[[[[null]]]]]", 6);
        due.document("[[[[[[]]]]]]", 6);
        due.document("[[[[[[ ]]]]]]", 6);
        due.document("[[[[[{}]]]]]", 6);
        due.document("{\"a\":{\"a\":{\"a\":{\"a\":{\"a\":0}}}}}", 6);
        due.document("{\"a\":{\"a\":{\"a\":{\"a\":{\"a\":{ }}}}}}", 6);
        due.document("[{\"a\":[{\"a\":[{}]}]}]", 6);
        due.documentFault("[[[[[[0]]]]]]", 6);
        due.documentFault("[[[[[[-1", 6);
        due.documentFault("[[[[[[\"\"", 6);
        due.documentFault("[[[[[[n", 6);
        due.documentFault("[[[[[[[]]]]]]]", 6);
        due.documentFault("[[[[[[{}]]]]]]", 6);
        due.documentFault("[[[[[{\"a\":0}]]]]]", 6);
        due.documentFault("{\"a\":{\"a\":{\"a\":{\"a\":{\"a\":[0]}}}}}", 26);
        due.documentFault("{\"a\":{\"a\":{\"a\":{\"a\":{\"a\":{\"a\":0}}}}}}", 26);
    }

    private static void depthOfSiblings() {
        due.sentence("Values lie in one another at most 6 deep: what lies beside them does not count");
        due.document("[[[[[[],[]],[[]]],[[[]]]],[[[[]]]]]]", 16);
        due.document("[[[[[0,0,0]]]],[[[[0]]]],0]", 14);
        due.documentFault("[[[[[[]]]]],[[[[[[", 17);
        due.documentFault("[0,[0,[0,[0,[0,[0", 16);
    }

    private static void minusSigns() {
        due.sentence("A NUMBER is a minus sign or none");
        due.document("1", 1);
        due.document("-1", 1);
        due.documentFault("--1", 1);
        due.documentFault("+1", 0);
        due.documentFault("1-", 1);
        due.documentFault("-", 1);
        due.documentFault("-n", 1);
    }

    private static void wholeDigits() {
        due.sentence("then 0, or one to nine digits");
        due.document("0", 1);
        for (int digits = 1; digits <= 9; digits++) {
            due.document("9".repeat(digits), 1);
            due.document("-" + "9".repeat(digits), 1);
        }
        due.document("123456789.5", 1);
        due.documentFault("1234567890", 9);
        due.documentFault("-1234567890", 10);
        due.documentFault("1000000000.5", 9);
        due.documentFault(".5", 0);
        due.documentFault("-.5", 1);
    }

    private static void firstDigits() {
        due.sentence("of which the first is not 0");
        due.document("10", 1);
        due.document("900000000", 1);
        due.documentFault("00", 1);
        due.documentFault("01", 1);
        due.documentFault("-00", 2);
        due.documentFault("-09", 2);
        due.documentFault("[00.5]", 2);
    }

    private static void minusZero() {
        due.sentence("(-0 is 0)");
        due.anew("[-0,0,-0.0,-0.000,0.0]");
        due.values("$[*]", "0 0 0 0 0");
        due.answer("$[?@==0]", 5);
        due.answer("$[?@==-0]", 5);
        due.answer("$[?@<0]", 0);
        due.answer("$[?@>-0.00]", 0);
        due.answer("$[?@<=-0]", 5);
    }

    private static void digitsBehindThePoint() {
        due.sentence("then, if one wants, a point and one to three digits");
        due.document("0.0", 1);
        due.document("1.00", 1);
        due.document("-1.000", 1);
        due.document("123456789.999", 1);
        due.documentFault("1.", 2);
        due.documentFault("1.]", 2);
        due.documentFault("0..0", 2);
        due.documentFault("1.0000", 5);
        due.documentFault("0.1234", 5);
        due.documentFault("1.2.3", 3);
        due.documentFault("1.2-", 3);
    }

    private static void charactersOfStrings() {
        due.sentence("A STRING is \", characters, \"; a character is itself but for \" and \\");
        due.anew("\"\"");
        due.values("$", "\"\"");
        for (char c = 32; c <= 126; c++) {
            if (c != '"' && c != '\\') {
                due.anew("\"" + c + "\"");
                due.values("$", "\"" + c + "\"");
            }
        }
        due.document("\"" + "'".repeat(118) + "\"", 1);
        due.documentFault("\"\"\"", 2);
        due.documentFault("\"\\\"", 3);
        due.documentFault("''", 0);
        due.documentFault("['a']", 1);
        due.documentFault("{'a':0}", 1);
    }

    private static void escapes() {
        due.sentence("or it is \\ with one of \" \\ / b f n r t behind it");
        for (char c = 32; c <= 126; c++) {
            if (ESCAPES.indexOf(c) >= 0) {
                due.anew("\"\\" + c + "\"");
                due.values("$", c == '/' ? "\"/\"" : "\"\\" + c + "\"");
                due.answer("$[0]", 0);
            } else {
                due.documentFault("\"\\" + c + "\"", 2);
                due.documentFault("\"a\\\\\\" + c + "\"", 5);
            }
        }
        due.documentFault("\"\\", 2);
        due.documentFault("\"" + "\\\\".repeat(59) + "\\", 120);
    }

    private static void codesOfEscapes() {
        due.sentence("for that sign itself, or for the codes 8, 12, 10, 13, 9");
        due.anew("[\"\\b\",\"\\f\",\"\\n\",\"\\r\",\"\\t\",\" \",\"\\\"\",\"\\\\\",\"\\/\"]");
        due.paths("$[?@<'\\t']", "$[0]");
        due.paths("$[?@<'\\n']", "$[0] $[4]");
        due.paths("$[?@<'\\f']", "$[0] $[2] $[4]");
        due.paths("$[?@<'\\r']", "$[0] $[1] $[2] $[4]");
        due.paths("$[?@<' ']", "$[0] $[1] $[2] $[3] $[4]");
        due.paths("$[?@<'\\b']", "");
        due.paths("$[?@=='\"']", "$[6]");
        due.paths("$[?@>'['&&@<']']", "$[7]");
        due.paths("$[?@=='/']", "$[8]");
        due.answer("$[?length(@)==1]", 9);
    }
}

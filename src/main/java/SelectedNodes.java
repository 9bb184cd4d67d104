import java.util.ArrayList;

/** A document of nested values, and queries that pick nodes out of it. ../shared/DOC.md says what is promised. */
public final class SelectedNodes {
    public static final int NONE = -1;
    public static final int MANY = -200;

    private final Text text;
    private final DocumentReader documents;
    private final QueryReader queries;
    private final Picker picker;
    private final Row picked;
    private final StringBuilder page;
    private Node document;

    public SelectedNodes() {
        text = new Text();
        documents = new DocumentReader(text);
        queries = new QueryReader(text);
        picker = new Picker();
        picked = new Row();
        page = new StringBuilder();
        document = null;
    }

    public boolean type(char c) {
        return text.append(c);
    }

    public int wipe() {
        return text.empty();
    }

    public int read() {
        Node whole = documents.readDocument();
        int fault = text.place;
        text.empty();
        if (whole == null) {
            return -1 - fault;
        }
        document = whole;
        picked.clear();
        return documents.values;
    }

    public int select() throws IllegalStateException {
        if (document == null) {
            throw new IllegalStateException();
        }
        Query query = queries.readQuery();
        int fault = text.place;
        text.empty();
        if (query == null) {
            return -1 - fault;
        }
        Row row = picker.answer(query, document);
        if (row == null) {
            return MANY;
        }
        picked.copy(row);
        return picked.size;
    }

    public int nodes() {
        return picked.size;
    }

    public int kind(int i) throws IndexOutOfBoundsException {
        Node node = picked.at(i);
        if (node == null) {
            throw new IndexOutOfBoundsException();
        }
        return node.kind;
    }

    public int show(int i, int what) throws IndexOutOfBoundsException, IllegalArgumentException {
        Node node = picked.at(i);
        if (node == null) {
            throw new IndexOutOfBoundsException();
        }
        if (what != 0 && what != 1) {
            throw new IllegalArgumentException();
        }
        page.setLength(0);
        if (what == 0) {
            node.writePath(page);
        } else {
            node.writeValue(page);
        }
        return page.length();
    }

    public int length() {
        return page.length();
    }

    public char charAt(int p) {
        return p >= 0 && p < page.length() ? page.charAt(p) : ' ';
    }

    /**
     * The typed characters, and the place up to which they are read. Nothing is taken that cannot stand
     * where it stands, so after a failed reading the place is the fault.
     */
    private static final class Text {
        static final int LIMIT = 120;
        static final char END = 0;
        // No place has so many digits.
        static final int NO_PLACE = -1000;
        static final String ESCAPE_LETTERS = "bfnrt";
        static final String ESCAPED_CODES = "\b\f\n\r\t";

        final char[] chars;
        final StringBuilder built;
        int size;
        int place;

        Text() {
            chars = new char[LIMIT];
            built = new StringBuilder();
            size = 0;
            place = 0;
        }

        boolean append(char c) {
            if (c < 32 || c > 126 || size >= LIMIT) {
                return false;
            }
            chars[size] = c;
            size++;
            return true;
        }

        int empty() {
            int had = size;
            size = 0;
            place = 0;
            return had;
        }

        char peek() {
            return place >= 0 && place < size ? chars[place] : END;
        }

        boolean atEnd() {
            return place >= size;
        }

        boolean take(char wanted) {
            if (peek() != wanted) {
                return false;
            }
            place++;
            return true;
        }

        boolean takeAll(String wanted) {
            for (int k = 0; k < wanted.length(); k++) {
                if (!take(wanted.charAt(k))) {
                    return false;
                }
            }
            return true;
        }

        void skipSpaces() {
            while (place < size && peek() == ' ') {
                place++;
            }
        }

        /** A letter or _ and any letters, digits and _ ; null when there is none. */
        String takeWord() {
            if (!isWordStart(peek())) {
                return null;
            }
            built.setLength(0);
            while (place < size && (isWordStart(peek()) || isDigit(peek()))) {
                built.append(peek());
                place++;
            }
            return built.toString();
        }

        /** A string with its quotes; null at a fault. */
        String takeString(char quote) {
            if (!take(quote)) {
                return null;
            }
            String characters = takeCharacters(quote);
            return characters != null && take(quote) ? characters : null;
        }

        /** What stands before the closing quote, which is left there: it may still be at fault. Null at a fault. */
        String takeCharacters(char quote) {
            built.setLength(0);
            while (place < size) {
                char c = peek();
                if (c == quote) {
                    return built.toString();
                }
                if (c == '\\') {
                    place++;
                    c = escaped(peek(), quote);
                    if (c == END) {
                        return null;
                    }
                }
                built.append(c);
                place++;
            }
            return null;
        }

        /** What a character c behind a \ stands for; END when it stands for nothing. */
        static char escaped(char c, char quote) {
            int letter = ESCAPE_LETTERS.indexOf(c);
            if (letter >= 0 && letter < ESCAPED_CODES.length()) {
                return ESCAPED_CODES.charAt(letter);
            }
            return c == quote || c == '\\' || c == '/' ? c : END;
        }

        /** A number as a node; null at a fault. A digit too many is left for what follows to refuse. */
        Node takeNumber() {
            boolean minus = take('-');
            long thousandths = 0;
            if (!take('0')) {
                long whole = takeDigits(9);
                if (whole < 0) {
                    return null;
                }
                thousandths = whole * 1000;
            }
            if (take('.')) {
                int from = place;
                long part = takeDigits(3);
                if (part < 0) {
                    return null;
                }
                for (int digits = place - from; digits < 3; digits++) {
                    part = part * 10;
                }
                thousandths = thousandths + part;
            }
            Node number = new Node(Node.NUMBER);
            number.thousandths = minus ? -thousandths : thousandths;
            return number;
        }

        boolean startsPlace() {
            return peek() == '-' || isDigit(peek());
        }

        /** A place; NO_PLACE at a fault. */
        int takePlace() {
            boolean minus = take('-');
            if (!minus && take('0')) {
                return 0;
            }
            if (peek() == '0') {
                return NO_PLACE;
            }
            int digits = takeDigits(3);
            if (digits < 0) {
                return NO_PLACE;
            }
            return minus ? -digits : digits;
        }

        /** The number of as many digits as there are, but at most most; -1 when there is none. */
        int takeDigits(int most) {
            int number = 0;
            int taken = 0;
            while (taken < most && isDigit(peek())) {
                number = number * 10 + (peek() - '0');
                place++;
                taken++;
            }
            return taken == 0 ? -1 : number;
        }

        /** null, false, true, a number or a string as a node; null at a fault. */
        Node takeScalar(boolean anyQuote) {
            char c = peek();
            switch (c) {
                case 'n':
                    return takeAll("null") ? new Node(Node.NULL) : null;
                case 'f':
                    return takeAll("false") ? new Node(Node.FALSE) : null;
                case 't':
                    return takeAll("true") ? new Node(Node.TRUE) : null;
                case '"':
                    return Node.ofString(takeString(c));
                case '\'':
                    return anyQuote ? Node.ofString(takeString(c)) : null;
                default:
                    return takeNumber();
            }
        }

        static boolean isDigit(char c) {
            return c >= '0' && c <= '9';
        }

        static boolean isWordStart(char c) {
            return c >= 'a' && c <= 'z' || c >= 'A' && c <= 'Z' || c == '_';
        }
    }

    /** A value at its place in a document, or a value that stands alone in a condition. */
    private static final class Node {
        static final int NULL = 0;
        static final int FALSE = 1;
        static final int TRUE = 2;
        static final int NUMBER = 3;
        static final int STRING = 4;
        static final int ARRAY = 5;
        static final int OBJECT = 6;
        static final int DEEPEST = 6;

        final int kind;
        final ArrayList<Node> children;
        long thousandths;
        String characters;
        Node parent;
        String name;
        int place;

        Node(int kind) {
            this.kind = kind;
            this.children = new ArrayList<>();
            this.thousandths = 0;
            this.characters = "";
            this.parent = null;
            this.name = "";
            this.place = 0;
        }

        /** A string of these characters; null when there are none to be had (null). */
        static Node ofString(String characters) {
            if (characters == null) {
                return null;
            }
            Node string = new Node(STRING);
            string.characters = characters;
            return string;
        }

        void add(Node child) {
            child.parent = this;
            child.place = children.size();
            children.add(child);
        }

        /** The member of that name; null when there is none. */
        Node member(String wanted) {
            if (kind != OBJECT) {
                return null;
            }
            for (int k = 0; k < children.size(); k++) {
                if (children.get(k).name.equals(wanted)) {
                    return children.get(k);
                }
            }
            return null;
        }

        /** Item k of an array; null when there is none. */
        Node item(int k) {
            return kind == ARRAY && k >= 0 && k < children.size() ? children.get(k) : null;
        }

        void setCount(int count) {
            thousandths = count * 1000L;
        }

        /** How many characters, items or members it has; -1 when it can have none. */
        int measure() {
            if (kind == STRING) {
                return characters.length();
            }
            return kind == ARRAY || kind == OBJECT ? children.size() : -1;
        }

        /** Whether the two, either of which may be nothing (null), are equal. */
        static boolean equal(Node a, Node b) {
            return a == null || b == null ? a == b : same(a, b, 1);
        }

        private static boolean same(Node a, Node b, int depth) {
            if (a.kind != b.kind || a.children.size() != b.children.size() || depth > DEEPEST) {
                return false;
            }
            if (a.kind == NUMBER) {
                return a.thousandths == b.thousandths;
            }
            if (a.kind == STRING) {
                return a.characters.equals(b.characters);
            }
            for (int k = 0; k < a.children.size(); k++) {
                Node child = a.children.get(k);
                Node other = a.kind == ARRAY ? b.item(k) : b.member(child.name);
                if (other == null || !same(child, other, depth + 1)) {
                    return false;
                }
            }
            return true;
        }

        /** Whether the first of the two, either of which may be nothing (null), is less. */
        static boolean less(Node a, Node b) {
            if (a == null || b == null || a.kind != b.kind) {
                return false;
            }
            if (a.kind == NUMBER) {
                return a.thousandths < b.thousandths;
            }
            return a.kind == STRING && comesBefore(a.characters, b.characters);
        }

        private static boolean comesBefore(String a, String b) {
            int common = Math.min(a.length(), b.length());
            for (int k = 0; k < common; k++) {
                if (a.charAt(k) != b.charAt(k)) {
                    return a.charAt(k) < b.charAt(k);
                }
            }
            return a.length() < b.length();
        }

        void writePath(StringBuilder page) {
            writeSteps(page, 1);
        }

        private void writeSteps(StringBuilder page, int depth) {
            if (parent == null || depth > DEEPEST) {
                page.append('$');
                return;
            }
            parent.writeSteps(page, depth + 1);
            page.append('[');
            if (parent.kind == OBJECT) {
                writeString(page, name, '\'');
            } else {
                page.append(place);
            }
            page.append(']');
        }

        void writeValue(StringBuilder page) {
            writeAt(page, 1);
        }

        private void writeAt(StringBuilder page, int depth) {
            switch (kind) {
                case NULL:
                    page.append("null");
                    break;
                case FALSE:
                    page.append("false");
                    break;
                case TRUE:
                    page.append("true");
                    break;
                case NUMBER:
                    writeNumber(page, thousandths);
                    break;
                case STRING:
                    writeString(page, characters, '"');
                    break;
                default:
                    writeChildren(page, depth);
                    break;
            }
        }

        private void writeChildren(StringBuilder page, int depth) {
            page.append(kind == ARRAY ? '[' : '{');
            for (int k = 0; k < children.size() && depth < DEEPEST; k++) {
                Node child = children.get(k);
                if (k > 0) {
                    page.append(',');
                }
                if (kind == OBJECT) {
                    writeString(page, child.name, '"');
                    page.append(':');
                }
                child.writeAt(page, depth + 1);
            }
            page.append(kind == ARRAY ? ']' : '}');
        }

        private static void writeNumber(StringBuilder page, long thousandths) {
            if (thousandths < 0) {
                page.append('-');
            }
            long size = Math.abs(thousandths);
            page.append((int) (size / 1000));
            int rest = (int) (size % 1000);
            if (rest != 0) {
                page.append('.');
            }
            for (int unit = 100; unit > 0 && rest != 0; unit = unit / 10) {
                page.append((char) ('0' + rest / unit));
                rest = rest % unit;
            }
        }

        private static void writeString(StringBuilder page, String characters, char quote) {
            page.append(quote);
            for (int k = 0; k < characters.length(); k++) {
                char c = characters.charAt(k);
                int code = Text.ESCAPED_CODES.indexOf(c);
                if (code >= 0 && code < Text.ESCAPE_LETTERS.length()) {
                    page.append('\\');
                    c = Text.ESCAPE_LETTERS.charAt(code);
                } else if (c == quote || c == '\\') {
                    page.append('\\');
                }
                page.append(c);
            }
            page.append(quote);
        }
    }

    /** Reads the text as a document. Null stands for a fault, at the text's place. */
    private static final class DocumentReader {
        final Text text;
        int values;

        DocumentReader(Text text) {
            this.text = text;
            this.values = 0;
        }

        Node readDocument() {
            values = 0;
            text.skipSpaces();
            Node whole = readValue(1);
            if (whole == null) {
                return null;
            }
            text.skipSpaces();
            return text.atEnd() ? whole : null;
        }

        private Node readValue(int depth) {
            if (depth > Node.DEEPEST) {
                return null;
            }
            values++;
            if (text.take('[')) {
                return readChildren(Node.ARRAY, ']', depth);
            }
            if (text.take('{')) {
                return readChildren(Node.OBJECT, '}', depth);
            }
            return text.takeScalar(false);
        }

        private Node readChildren(int kind, char close, int depth) {
            Node node = new Node(kind);
            text.skipSpaces();
            if (text.take(close)) {
                return node;
            }
            for (int k = 0; k < Text.LIMIT; k++) {
                Node child = kind == Node.ARRAY ? readValue(depth + 1) : readMember(node, depth + 1);
                if (child == null) {
                    return null;
                }
                node.add(child);
                text.skipSpaces();
                if (text.take(close)) {
                    return node;
                }
                if (!text.take(',')) {
                    return null;
                }
                text.skipSpaces();
            }
            return null;
        }

        private Node readMember(Node object, int depth) {
            // Where the value would lie too deep, already its name can't stand.
            if (depth > Node.DEEPEST || !text.take('"')) {
                return null;
            }
            String name = text.takeCharacters('"');
            // A name that is there already might still grow into another one: its closing quote is the fault.
            if (name == null || object.member(name) != null || !text.take('"')) {
                return null;
            }
            text.skipSpaces();
            if (!text.take(':')) {
                return null;
            }
            text.skipSpaces();
            Node child = readValue(depth);
            if (child != null) {
                child.name = name;
            }
            return child;
        }
    }

    /** A query: where it starts, and its segments. */
    private static final class Query {
        final boolean fromWhole;
        final ArrayList<Segment> segments;
        boolean single;

        Query(boolean fromWhole) {
            this.fromWhole = fromWhole;
            this.segments = new ArrayList<>();
            this.single = true;
        }

        void add(Segment segment) {
            segments.add(segment);
            single = single && segment.isSingle();
        }
    }

    /** A segment: its selectors, and whether it goes deep down. */
    private static final class Segment {
        final boolean deep;
        final ArrayList<Selector> selectors;

        Segment(boolean deep) {
            this.deep = deep;
            this.selectors = new ArrayList<>();
        }

        boolean isSingle() {
            return !deep && selectors.size() == 1 && selectors.get(0).isSingle();
        }
    }

    /** A selector; which of its fields count is told by its sort. */
    private static final class Selector {
        static final int ALL = 0;
        static final int NAME = 1;
        static final int PLACE = 2;
        static final int SLICE = 3;
        static final int FILTER = 4;

        final int sort;
        String name;
        int from;
        int to;
        int step;
        Condition condition;

        Selector(int sort) {
            this.sort = sort;
            this.name = "";
            this.from = Text.NO_PLACE;
            this.to = Text.NO_PLACE;
            this.step = 1;
            this.condition = null;
        }

        static Selector named(String name) {
            Selector selector = new Selector(NAME);
            selector.name = name;
            return selector;
        }

        boolean isSingle() {
            return sort == NAME || sort == PLACE;
        }
    }

    /** A condition or a part of one; which of its fields count is told by its sort. */
    private static final class Condition {
        static final int EITHER = 0;
        static final int BOTH = 1;
        static final int DENIED = 2;
        static final int TEST = 3;
        static final int COMPARISON = 4;

        static final int NO_SIGN = 0;
        static final int EQUAL = 1;
        static final int UNEQUAL = 2;
        static final int LESS = 3;
        static final int LESS_OR_EQUAL = 4;
        static final int MORE = 5;
        static final int MORE_OR_EQUAL = 6;

        final int sort;
        final ArrayList<Condition> parts;
        Query test;
        Operand left;
        Operand right;
        int sign;

        Condition(int sort) {
            this.sort = sort;
            this.parts = new ArrayList<>();
            this.test = null;
            this.left = null;
            this.right = null;
            this.sign = NO_SIGN;
        }

        static Condition ofTest(Query query) {
            Condition condition = new Condition(TEST);
            condition.test = query;
            return condition;
        }
    }

    /** An operand: what stands innermost, and how many times length( stands round it. */
    private static final class Operand {
        static final int LITERAL = 0;
        static final int SINGLE = 1;
        static final int COUNT = 2;
        static final int VALUE = 3;

        final int sort;
        final Node literal;
        final Query query;
        // Holds what length and count give, so that trying a condition makes no objects.
        final Node number;
        int lengths;

        Operand(int sort, Node literal, Query query) {
            this.sort = sort;
            this.literal = literal;
            this.query = query;
            this.number = new Node(Node.NUMBER);
            this.lengths = 0;
        }
    }

    /**
     * Reads the text as a query. Null stands for a fault, at the text's place. The depth is that of the
     * conditions round what is read; where only a single may stand, what no single has is refused at once.
     */
    private static final class QueryReader {
        static final int DEEPEST = 4;

        final Text text;

        QueryReader(Text text) {
            this.text = text;
        }

        Query readQuery() {
            if (text.peek() != '$') {
                return null;
            }
            Query query = readTest(0, false);
            return text.atEnd() ? query : null;
        }

        private Query readTest(int depth, boolean onlySingle) {
            boolean fromWhole = text.take('$');
            if (!fromWhole && !text.take('@')) {
                return null;
            }
            Query query = new Query(fromWhole);
            for (int k = 0; k < Text.LIMIT && (text.peek() == '.' || text.peek() == '['); k++) {
                Segment segment = readSegment(depth, onlySingle);
                if (segment == null) {
                    return null;
                }
                query.add(segment);
            }
            return query;
        }

        private Segment readSegment(int depth, boolean onlySingle) {
            boolean dot = text.take('.');
            boolean deep = dot && !onlySingle && text.take('.');
            boolean bracket = (deep || !dot) && text.take('[');
            Segment segment = new Segment(deep);
            if (bracket) {
                return readSelectors(segment, depth, onlySingle) ? segment : null;
            }
            if (!onlySingle && text.take('*')) {
                segment.selectors.add(new Selector(Selector.ALL));
                return segment;
            }
            String word = text.takeWord();
            if (word == null) {
                return null;
            }
            segment.selectors.add(Selector.named(word));
            return segment;
        }

        private boolean readSelectors(Segment segment, int depth, boolean onlySingle) {
            for (int k = 0; k < Text.LIMIT; k++) {
                Selector selector = readSelector(depth, onlySingle);
                if (selector == null) {
                    return false;
                }
                segment.selectors.add(selector);
                if (onlySingle || !text.take(',')) {
                    return text.take(']');
                }
            }
            return false;
        }

        private Selector readSelector(int depth, boolean onlySingle) {
            char c = text.peek();
            if (c == '\'' || c == '"') {
                String name = text.takeString(c);
                return name == null ? null : Selector.named(name);
            }
            if (text.startsPlace()) {
                return readPlaceOrSlice(onlySingle);
            }
            if (onlySingle) {
                return null;
            }
            if (c == '?') {
                return readFilter(depth);
            }
            return text.take('*') ? new Selector(Selector.ALL) : readSlice(Text.NO_PLACE);
        }

        private Selector readFilter(int depth) {
            if (depth >= DEEPEST || !text.take('?')) {
                return null;
            }
            Selector filter = new Selector(Selector.FILTER);
            filter.condition = readCondition(depth + 1);
            return filter.condition == null ? null : filter;
        }

        private Selector readPlaceOrSlice(boolean onlySingle) {
            int place = text.takePlace();
            if (place == Text.NO_PLACE) {
                return null;
            }
            if (!onlySingle && text.peek() == ':') {
                return readSlice(place);
            }
            Selector selector = new Selector(Selector.PLACE);
            selector.from = place;
            return selector;
        }

        private Selector readSlice(int from) {
            Selector slice = new Selector(Selector.SLICE);
            slice.from = from;
            if (!text.take(':')) {
                return null;
            }
            if (text.startsPlace()) {
                slice.to = text.takePlace();
                if (slice.to == Text.NO_PLACE) {
                    return null;
                }
            }
            if (text.take(':') && text.startsPlace()) {
                slice.step = text.takePlace();
                if (slice.step == Text.NO_PLACE) {
                    return null;
                }
            }
            return slice;
        }

        private Condition readCondition(int depth) {
            return readJoined(Condition.EITHER, '|', depth);
        }

        /** One or more ands with || between, or one or more basics with && between. */
        private Condition readJoined(int sort, char sign, int depth) {
            Condition joined = new Condition(sort);
            for (int k = 0; k < Text.LIMIT; k++) {
                Condition part = sort == Condition.EITHER ? readJoined(Condition.BOTH, '&', depth) : readBasic(depth);
                if (part == null) {
                    return null;
                }
                joined.parts.add(part);
                if (text.peek() != sign) {
                    return joined;
                }
                if (!text.take(sign) || !text.take(sign)) {
                    return null;
                }
            }
            return null;
        }

        private Condition readBasic(int depth) {
            if (text.peek() == '(') {
                return readGroup(depth);
            }
            if (text.take('!')) {
                return readDenied(depth);
            }
            if (text.peek() != '$' && text.peek() != '@') {
                return readComparison(readOperand(depth), depth);
            }
            Query query = readTest(depth, false);
            if (query == null) {
                return null;
            }
            if (query.single && startsSign()) {
                return readComparison(new Operand(Operand.SINGLE, null, query), depth);
            }
            return Condition.ofTest(query);
        }

        private Condition readGroup(int depth) {
            if (depth >= DEEPEST || !text.take('(')) {
                return null;
            }
            Condition inner = readCondition(depth + 1);
            return inner != null && text.take(')') ? inner : null;
        }

        private Condition readDenied(int depth) {
            Condition inner;
            if (text.peek() == '(') {
                inner = readGroup(depth);
            } else {
                Query query = readTest(depth, false);
                inner = query == null ? null : Condition.ofTest(query);
            }
            if (inner == null) {
                return null;
            }
            Condition denied = new Condition(Condition.DENIED);
            denied.parts.add(inner);
            return denied;
        }

        private Condition readComparison(Operand left, int depth) {
            if (left == null) {
                return null;
            }
            Condition comparison = new Condition(Condition.COMPARISON);
            comparison.left = left;
            comparison.sign = readSign();
            if (comparison.sign == Condition.NO_SIGN) {
                return null;
            }
            comparison.right = readOperand(depth);
            return comparison.right == null ? null : comparison;
        }

        private boolean startsSign() {
            char c = text.peek();
            return c == '=' || c == '!' || c == '<' || c == '>';
        }

        private int readSign() {
            switch (text.peek()) {
                case '=':
                    return text.takeAll("==") ? Condition.EQUAL : Condition.NO_SIGN;
                case '!':
                    return text.takeAll("!=") ? Condition.UNEQUAL : Condition.NO_SIGN;
                case '<':
                    text.take('<');
                    return text.take('=') ? Condition.LESS_OR_EQUAL : Condition.LESS;
                case '>':
                    text.take('>');
                    return text.take('=') ? Condition.MORE_OR_EQUAL : Condition.MORE;
                default:
                    return Condition.NO_SIGN;
            }
        }

        private Operand readOperand(int depth) {
            int lengths = 0;
            while (lengths < Text.LIMIT && text.peek() == 'l') {
                if (!text.takeAll("length(")) {
                    return null;
                }
                lengths++;
            }
            Operand operand = readInnermost(depth);
            if (operand == null) {
                return null;
            }
            operand.lengths = lengths;
            for (int k = 0; k < lengths; k++) {
                if (!text.take(')')) {
                    return null;
                }
            }
            return operand;
        }

        private Operand readInnermost(int depth) {
            switch (text.peek()) {
                case '$':
                case '@':
                    Query single = readTest(depth, true);
                    return single == null ? null : new Operand(Operand.SINGLE, null, single);
                case 'c':
                    return text.takeAll("count(") ? readCall(Operand.COUNT, depth) : null;
                case 'v':
                    return text.takeAll("value(") ? readCall(Operand.VALUE, depth) : null;
                default:
                    Node literal = text.takeScalar(true);
                    return literal == null ? null : new Operand(Operand.LITERAL, literal, null);
            }
        }

        private Operand readCall(int sort, int depth) {
            Query query = readTest(depth, false);
            return query != null && text.take(')') ? new Operand(sort, null, query) : null;
        }
    }

    /** A row of nodes, as long as the document allows. */
    private static final class Row {
        static final int LIMIT = 40;

        final Node[] entries;
        int size;

        Row() {
            entries = new Node[LIMIT];
            size = 0;
        }

        void clear() {
            size = 0;
        }

        /** False when there is no room for it. */
        boolean add(Node node) {
            if (size >= LIMIT) {
                return false;
            }
            entries[size] = node;
            size++;
            return true;
        }

        /** Null when there is none. */
        Node at(int i) {
            return i >= 0 && i < size ? entries[i] : null;
        }

        void copy(Row other) {
            clear();
            for (int i = 0; i < other.size; i++) {
                add(other.at(i));
            }
        }
    }

    /**
     * Finds the nodes that a query gives. The level tells how many filters stand round a query; each level
     * has two rows of its own, since a query waits, half done, while its filter's queries are answered.
     */
    private static final class Picker {
        static final int LEVELS = QueryReader.DEEPEST + 1;
        static final int MOST_TRIED = 1000;

        final Row[] olds;
        final Row[] news;
        Node whole;
        int tried;
        boolean many;

        Picker() {
            olds = new Row[LEVELS];
            news = new Row[LEVELS];
            for (int level = 0; level < LEVELS; level++) {
                olds[level] = new Row();
                news[level] = new Row();
            }
            whole = null;
            tried = 0;
            many = false;
        }

        /** The row that the query gives, good until the next query; null when it is too many. */
        Row answer(Query query, Node document) {
            whole = document;
            tried = 0;
            many = false;
            Row row = pick(query, document, 0);
            return many ? null : row;
        }

        /** Null at a level that no query reaches; else a row, of no meaning when there are too many. */
        private Row pick(Query query, Node current, int level) {
            if (query == null || level < 0 || level >= LEVELS) {
                return null;
            }
            Row row = olds[level];
            Row given = news[level];
            row.clear();
            row.add(query.fromWhole ? whole : current);
            for (int k = 0; k < query.segments.size() && !many; k++) {
                given.clear();
                for (int i = 0; i < row.size && !many; i++) {
                    follow(query.segments.get(k), row.at(i), given, level, 1);
                }
                Row old = row;
                row = given;
                given = old;
            }
            return row;
        }

        private void follow(Segment segment, Node node, Row given, int level, int depth) {
            for (int k = 0; k < segment.selectors.size() && !many; k++) {
                apply(segment.selectors.get(k), node, given, level);
            }
            if (segment.deep && depth < Node.DEEPEST) {
                for (int k = 0; k < node.children.size() && !many; k++) {
                    follow(segment, node.children.get(k), given, level, depth + 1);
                }
            }
        }

        private void apply(Selector selector, Node node, Row given, int level) {
            switch (selector.sort) {
                case Selector.ALL:
                    for (int k = 0; k < node.children.size(); k++) {
                        keep(node.children.get(k), given);
                    }
                    break;
                case Selector.NAME:
                    keep(node.member(selector.name), given);
                    break;
                case Selector.PLACE:
                    keep(node.item(selector.from < 0 ? node.children.size() + selector.from : selector.from), given);
                    break;
                case Selector.SLICE:
                    slice(selector, node, given);
                    break;
                default:
                    filter(selector.condition, node, given, level);
                    break;
            }
        }

        private void keep(Node node, Row given) {
            if (node != null && !given.add(node)) {
                many = true;
            }
        }

        private void slice(Selector slice, Node node, Row given) {
            if (node.kind != Node.ARRAY) {
                return;
            }
            int n = node.children.size();
            if (slice.step > 0) {
                int from = bound(slice.from, 0, n, 0);
                int to = bound(slice.to, n, n, 0);
                for (int k = from; k < to; k = k + slice.step) {
                    keep(node.item(k), given);
                }
            }
            if (slice.step < 0) {
                int from = bound(slice.from, n - 1, n, -1);
                int to = bound(slice.to, -1 - n, n, -1);
                for (int k = from; k > to; k = k + slice.step) {
                    keep(node.item(k), given);
                }
            }
        }

        /** A slice's end, made to lie in least .. least + n. */
        private int bound(int place, int absent, int n, int least) {
            int end = place == Text.NO_PLACE ? absent : place;
            if (end < 0) {
                end = end + n;
            }
            return Math.max(least, Math.min(least + n, end));
        }

        private void filter(Condition condition, Node node, Row given, int level) {
            for (int k = 0; k < node.children.size() && !many; k++) {
                if (tried >= MOST_TRIED) {
                    many = true;
                    return;
                }
                tried++;
                Node child = node.children.get(k);
                if (holds(condition, child, level + 1)) {
                    keep(child, given);
                }
            }
        }

        private boolean holds(Condition condition, Node current, int level) {
            if (condition == null || many) {
                return false;
            }
            switch (condition.sort) {
                case Condition.EITHER:
                    return somePart(condition, true, current, level);
                case Condition.BOTH:
                    return !somePart(condition, false, current, level);
                case Condition.DENIED:
                    return somePart(condition, false, current, level);
                case Condition.TEST:
                    Row row = pick(condition.test, current, level);
                    return row != null && row.size > 0;
                default:
                    Node left = valueOf(condition.left, current, level);
                    Node right = valueOf(condition.right, current, level);
                    return compare(left, condition.sign, right);
            }
        }

        /** Whether some part holds, or does not, as is asked; the parts behind such a one are not looked at. */
        private boolean somePart(Condition condition, boolean asked, Node current, int level) {
            for (int k = 0; k < condition.parts.size() && !many; k++) {
                if (holds(condition.parts.get(k), current, level) == asked) {
                    return true;
                }
            }
            return false;
        }

        private static boolean compare(Node left, int sign, Node right) {
            switch (sign) {
                case Condition.EQUAL:
                    return Node.equal(left, right);
                case Condition.UNEQUAL:
                    return !Node.equal(left, right);
                case Condition.LESS:
                    return Node.less(left, right);
                case Condition.LESS_OR_EQUAL:
                    return Node.less(left, right) || Node.equal(left, right);
                case Condition.MORE:
                    return Node.less(right, left);
                default:
                    return Node.less(right, left) || Node.equal(right, left);
            }
        }

        /** The operand's value; null for nothing. */
        private Node valueOf(Operand operand, Node current, int level) {
            if (operand == null) {
                return null;
            }
            Node value = innermost(operand, current, level);
            for (int k = 0; k < operand.lengths && value != null; k++) {
                int measure = value.measure();
                if (measure < 0) {
                    return null;
                }
                operand.number.setCount(measure);
                value = operand.number;
            }
            return value;
        }

        private Node innermost(Operand operand, Node current, int level) {
            if (operand.sort == Operand.LITERAL) {
                return operand.literal;
            }
            Row row = pick(operand.query, current, level);
            if (row == null) {
                return null;
            }
            if (operand.sort == Operand.COUNT) {
                operand.number.setCount(row.size);
                return operand.number;
            }
            return row.size == 1 ? row.at(0) : null;
        }
    }
}

/** Promise 5: select with conditions. */
public final class ConditionTest {
    private static final Due due = new Due();

    public static void main(String[] args) {
        tests();
        andsAndOrs();
        numbersAndStrings();
        equalValues();
        nothing();
        lengths();
        counts();
        values();
        whole();
        filtersInFilters();
        faultsOfConditions();
        faultsOfOperands();
        depth();
        manyNodes();
        manyTries();
        shortCuts();
        due.end();
    }

    private static void tests() {
        due.anew("[1,{\"a\":0},{\"b\":[2]},[3],[],null,false]");
        due.paths("$[?@]", "$[0] $[1] $[2] $[3] $[4] $[5] $[6]");
        due.paths("$[?$]", "$[0] $[1] $[2] $[3] $[4] $[5] $[6]");
        due.paths("$[?!@]", "");
        due.paths("$[?@.a]", "$[1]");
        due.paths("$[?!@.a]", "$[0] $[2] $[3] $[4] $[5] $[6]");
        due.paths("$[?@.*]", "$[1] $[2] $[3]");
        due.paths("$[?!@.*]", "$[0] $[4] $[5] $[6]");
        due.paths("$[?@..[0]]", "$[2] $[3]");
        due.paths("$[?@['a','b']]", "$[1] $[2]");
        due.paths("$[?@[1:]]", "");
        due.paths("$[0,?@.b,0]", "$[0] $[2] $[0]");
        due.anew("{\"x\":{\"a\":1},\"y\":{\"b\":2},\"z\":3}");
        due.paths("$[?@.a]", "$['x']");
        due.paths("$[?@.a,?@.b]", "$['x'] $['y']");
        due.paths("$.*[?@==2]", "$['y']['b']");
        due.paths("$.z[?@]", "");
    }

    private static void andsAndOrs() {
        due.anew("[0,1,2,3,4,5]");
        due.values("$[?@<2||@>4]", "0 1 5");
        due.values("$[?@>1&&@<4]", "2 3");
        due.values("$[?@<1||@>1&&@<4]", "0 2 3");
        due.values("$[?(@<1||@>1)&&@<4]", "0 2 3");
        due.values("$[?@==0&&@==1||@==2]", "2");
        due.values("$[?@==0&&(@==1||@==2)]", "");
        due.values("$[?!(@<2||@>4)]", "2 3 4");
        due.values("$[?!(@<4)&&!(@>4)]", "4");
        due.values("$[?((@==3))]", "3");
        due.values("$[?@==0||@==2||@==4]", "0 2 4");
        due.values("$[?@>0&&@<5&&@!=3]", "1 2 4");
    }

    private static void numbersAndStrings() {
        due.anew("[-1.5,0,-0,1,1.50,10,\"\",\"a\",\"aa\",\"b\",\"A\",\"10\",null,true,[1],{\"a\":1}]");
        due.paths("$[?@==0]", "$[1] $[2]");
        due.paths("$[?@==-0.0]", "$[1] $[2]");
        due.paths("$[?@==1.5]", "$[4]");
        due.paths("$[?1.500==@]", "$[4]");
        due.paths("$[?@<1]", "$[0] $[1] $[2]");
        due.paths("$[?@<=1]", "$[0] $[1] $[2] $[3]");
        due.paths("$[?@>1]", "$[4] $[5]");
        due.paths("$[?@>=1.5]", "$[4] $[5]");
        due.paths("$[?1<@]", "$[4] $[5]");
        due.paths("$[?@<'a']", "$[6] $[10] $[11]");
        due.paths("$[?@<=\"a\"]", "$[6] $[7] $[10] $[11]");
        due.paths("$[?@>'a']", "$[8] $[9]");
        due.paths("$[?@>='aa']", "$[8] $[9]");
        due.paths("$[?@=='10']", "$[11]");
        due.paths("$[?@==10]", "$[5]");
        due.paths("$[?@==null]", "$[12]");
        due.paths("$[?@<=null]", "$[12]");
        due.paths("$[?@<null]", "");
        due.paths("$[?@>=true]", "$[13]");
        due.paths("$[?@==false]", "");
        due.paths("$[?true!=@&&@!=null&&@>=0]", "$[1] $[2] $[3] $[4] $[5]");
        due.anew("[\"\\n\",\" \",\"'\",\"\\\"\",\"\\\\\"]");
        due.paths("$[?@<' ']", "$[0]");
        due.paths("$[?@=='\\'']", "$[2]");
        due.paths("$[?@==\"'\"]", "$[2]");
        due.paths("$[?@=='\"']", "$[3]");
        due.paths("$[?@=='\\\\'||@=='\\n']", "$[0] $[4]");
    }

    private static void equalValues() {
        due.anew("[[1,[2]],[1,[2]],[[2],1],[1],{\"a\":1,\"b\":[]},{\"b\":[],\"a\":1},{\"a\":1},{\"a\":1,\"c\":[]},[],{}]");
        due.paths("$[?@==$[0]]", "$[0] $[1]");
        due.paths("$[?@==$[4]]", "$[4] $[5]");
        due.paths("$[?@!=$[4]]", "$[0] $[1] $[2] $[3] $[6] $[7] $[8] $[9]");
        due.paths("$[?@<=$[4]]", "$[4] $[5]");
        due.paths("$[?@<$[4]]", "");
        due.paths("$[?$[8]==@]", "$[8]");
        due.paths("$[?$[9]==@]", "$[9]");
        due.paths("$[?@.a==$[6].a]", "$[4] $[5] $[6] $[7]");
        due.paths("$[?@.b==$[8]]", "$[4] $[5]");
        due.anew("[[0,1],[9,1],[0,9],[0,1,2],{\"a\":0,\"b\":1},{\"a\":9,\"b\":1},{\"a\":0,\"b\":9},{\"b\":0,\"a\":1}]");
        due.paths("$[?@==$[0]]", "$[0]");
        due.paths("$[?@==$[4]]", "$[4]");
        due.paths("$[?@==$[7]]", "$[7]");
        due.anew("[[[[[[]]]]],[[[[{}]]]],[[[[[]]]]],[[[[]]]],[[[[1]]]]]");
        due.paths("$[?@==$[0]]", "$[0] $[2]");
        due.paths("$[?@==$[4]]", "$[4]");
        due.paths("$[?$==$]", "$[0] $[1] $[2] $[3] $[4]");
    }

    private static void nothing() {
        due.anew("[{\"a\":null},{\"b\":1},2]");
        due.paths("$[?@.a==null]", "$[0]");
        due.paths("$[?@.a!=null]", "$[1] $[2]");
        due.paths("$[?@.a==@.none]", "$[1] $[2]");
        due.paths("$[?@.a!=@.none]", "$[0]");
        due.paths("$[?@.x==@.y]", "$[0] $[1] $[2]");
        due.paths("$[?@.x<=@.y]", "$[0] $[1] $[2]");
        due.paths("$[?@.x>=@.y]", "$[0] $[1] $[2]");
        due.paths("$[?@.x<@.y]", "");
        due.paths("$[?@.b<2]", "$[1]");
        due.paths("$[?@.b>=1]", "$[1]");
        due.paths("$[?@.x==length(1)]", "$[0] $[1] $[2]");
    }

    private static void lengths() {
        due.anew("[\"\",\"a\\n\\\"\",[],[1,2],{},{\"a\":1,\"b\":2,\"c\":3},12,null,true]");
        due.paths("$[?length(@)==0]", "$[0] $[2] $[4]");
        due.paths("$[?length(@)==3]", "$[1] $[5]");
        due.paths("$[?length(@)>=2]", "$[1] $[3] $[5]");
        due.paths("$[?length(@)==length(@.none)]", "$[6] $[7] $[8]");
        due.paths("$[?length(@)==length('ab')]", "$[3]");
        due.paths("$[?length(@.a)==length(@.b)]", "$[0] $[1] $[2] $[3] $[4] $[5] $[6] $[7] $[8]");
        due.paths("$[?length(length(@))==3]", "");
        due.paths("$[?length(length(@))==@.none]", "$[0] $[1] $[2] $[3] $[4] $[5] $[6] $[7] $[8]");
        due.paths("$[?length(value($[3]))==length(@)]", "$[3]");
        due.paths("$[?length(count(@))==1]", "");
    }

    private static void counts() {
        due.anew("[[],[1],[1,2],{\"a\":[1,2,3]},4]");
        due.paths("$[?count(@.*)==0]", "$[0] $[4]");
        due.paths("$[?count(@.*)>=1]", "$[1] $[2] $[3]");
        due.paths("$[?count(@..*)==4]", "$[3]");
        due.paths("$[?count(@)==1]", "$[0] $[1] $[2] $[3] $[4]");
        due.paths("$[?count($)==count(@.none)]", "");
        due.paths("$[?2==count(@[*])]", "$[2]");
        due.paths("$[?count(@[0,0,0])==3]", "$[1] $[2]");
        due.paths("$[?count($.*)==5]", "$[0] $[1] $[2] $[3] $[4]");
        due.paths("$[?count(@[?@>1])==1]", "$[2]");
        due.paths("$[?count(@..*)==count($[2]..*)]", "$[2]");
        due.paths("$[?count(@.*)<count(@..*)]", "$[3]");
    }

    private static void values() {
        due.anew("[[],[1],[1,1],{\"a\":{\"b\":1}},1]");
        due.paths("$[?value(@.*)==1]", "$[1]");
        due.paths("$[?value(@..b)==1]", "$[3]");
        due.paths("$[?value(@[0])==1]", "$[1] $[2]");
        due.paths("$[?value(@)==1]", "$[4]");
        due.paths("$[?value(@[*])==@.none]", "$[0] $[2] $[4]");
        due.paths("$[?value(@[?@==1])==1]", "$[1]");
        due.paths("$[?length(value(@.*))==1]", "$[3]");
    }

    private static void whole() {
        due.anew("{\"max\":2,\"row\":[1,2,3],\"at\":[[2,9],[1,2]]}");
        due.values("$.row[?@<=$.max]", "1 2");
        due.values("$.row[?@==$['max']]", "2");
        due.values("$.row[?@==$.row[-1]]", "3");
        due.values("$.at[?@[0]==$.max]", "[2,9]");
        due.values("$..[?@==$.max]", "2 2 2 2");
        due.paths("$..[?@==$.max]", "$['max'] $['row'][1] $['at'][0][0] $['at'][1][1]");
        due.values("$.row[?$.max==2]", "1 2 3");
        due.values("$.row[?$.none]", "");
    }

    private static void filtersInFilters() {
        due.anew("[[[1,2],[3]],[[4]],[5,[6]],7]");
        due.paths("$[?@[?@[?@>2]]]", "$[0] $[1] $[2]");
        due.paths("$[?@[?@==5]]", "$[2]");
        due.paths("$[?@[?count(@.*)==2]]", "$[0]");
        due.paths("$[?@[?@[?@==$[3]]]]", "");
        due.paths("$[?@[?@[?@<$[3]]]]", "$[0] $[1] $[2]");
        due.paths("$[?@[?@[0]==3]||@==7]", "$[0] $[3]");
        due.paths("$[?@[?@]&&count(@[?@>4])==1]", "$[2]");
        due.paths("$[?@[?@.*][?@==3]][?@[0]]", "$[0][0] $[0][1]");
        due.paths("$[?@[?@[?$[?@==7]]]]", "$[0] $[1] $[2]");
    }

    private static void faultsOfConditions() {
        due.anew("[]");
        due.queryFault("$[?", 3);
        due.queryFault("$[?]", 3);
        due.queryFault("$[? @]", 3);
        due.queryFault("$[?@", 4);
        due.queryFault("$[?@ ]", 4);
        due.queryFault("$[?@&", 5);
        due.queryFault("$[?@&@]", 5);
        due.queryFault("$[?@&&", 6);
        due.queryFault("$[?@&&]", 6);
        due.queryFault("$[?@|@]", 5);
        due.queryFault("$[?@||]", 6);
        due.queryFault("$[?@|||@]", 6);
        due.queryFault("$[?(@]", 5);
        due.queryFault("$[?@)]", 4);
        due.queryFault("$[?()]", 4);
        due.queryFault("$[?!]", 4);
        due.queryFault("$[?!!@]", 4);
        due.queryFault("$[?!1==1]", 4);
        due.queryFault("$[?!'a'", 4);
        due.queryFault("$[?!length(@)==1]", 4);
        due.queryFault("$[?!@.a==1]", 7);
        due.queryFault("$[?(@)==1]", 6);
        due.queryFault("$[?(1)]", 5);
        due.queryFault("$[?!(@)!=1]", 7);
        due.queryFault("$[?@.*]]", 7);
        due.answer("$[?@.*,?@,*]", 0);
        due.answer("$[?(@)&&!(@)||(@==1)]", 0);
    }

    private static void faultsOfOperands() {
        due.anew("[]");
        due.queryFault("$[?1]", 4);
        due.queryFault("$[?true]", 7);
        due.queryFault("$[?'a']", 6);
        due.queryFault("$[?1=1]", 5);
        due.queryFault("$[?1!1]", 5);
        due.queryFault("$[?1==]", 6);
        due.queryFault("$[?1<]", 5);
        due.queryFault("$[?1<=]", 6);
        due.queryFault("$[?1=>2]", 5);
        due.queryFault("$[?1<>2]", 5);
        due.queryFault("$[?1==1==1]", 7);
        due.queryFault("$[?@.a!]", 7);
        due.queryFault("$[?@.*!=1]", 6);
        due.queryFault("$[?@..a==1]", 7);
        due.queryFault("$[?@[*]==1]", 7);
        due.queryFault("$[?@[0,1]<1]", 9);
        due.queryFault("$[?@[0:1]>1]", 9);
        due.queryFault("$[?@[?@]==1]", 8);
        due.queryFault("$[?1==@.*]", 8);
        due.queryFault("$[?1==@..a]", 8);
        due.queryFault("$[?1==@[*]]", 8);
        due.queryFault("$[?1==@[0,1]]", 9);
        due.queryFault("$[?1==@[0:1]]", 9);
        due.queryFault("$[?1==@[:]]", 8);
        due.queryFault("$[?1==@[?@]]", 8);
        due.queryFault("$[?1==@[]]", 8);
        due.queryFault("$[?1==(1)]", 6);
        due.queryFault("$[?1==!@]", 6);
        due.queryFault("$[?1==[]]", 6);
        due.queryFault("$[?length(@)]", 12);
        due.queryFault("$[?length()]", 10);
        due.queryFault("$[?length(@.*)==1]", 12);
        due.queryFault("$[?length(@,@)", 11);
        due.queryFault("$[?len(@)", 6);
        due.queryFault("$[?count(1)]", 9);
        due.queryFault("$[?count(@.*)]", 13);
        due.queryFault("$[?count(count(@))", 9);
        due.queryFault("$[?value('a')", 9);
        due.queryFault("$[?value(@==1)", 10);
        due.queryFault("$[?values(@)", 8);
        due.queryFault("$[?nul==1]", 6);
        due.queryFault("$[?01==1]", 4);
        due.queryFault("$[?1.==1]", 5);
        due.queryFault("$[?1.2345==1]", 8);
        due.queryFault("$[?1234567890==1]", 12);
        due.queryFault("$[?'\\\"'==1]", 5);
        due.queryFault("$[?\"\\'\"==1]", 5);
        due.answer("$[?-0.5=='\\''&&\"\\\"\"!=-0]", 0);
        due.answer("$[?@==$&&@['a'][\"b\"][0][-1].c<=$.a]", 0);
        due.answer("$[?length(length(length(value(@..*))))>count(@[?@])]", 0);
    }

    private static void depth() {
        due.anew("[]");
        due.answer("$[?(((@)))]", 0);
        due.queryFault("$[?((((@))))]", 6);
        due.answer("$[?!(!(!(@)))]", 0);
        due.queryFault("$[?!(!(!(!(@))))]", 10);
        due.answer("$[?!(!(!(!@)))]", 0);
        due.answer("$[?@[?@[?@[?@]]]]", 0);
        due.queryFault("$[?@[?@[?@[?@[?@]]]]]", 14);
        due.queryFault("$[?@[?@[?@[?@[0,?@]]]]]", 16);
        due.queryFault("$[?@[?@[?@[?(@)]]]]", 12);
        due.queryFault("$[?@[?@[?@[?!(@)]]]]", 13);
        due.queryFault("$[?(@[?(@[?@[?@]])])]", 10);
        due.queryFault("$[?(@[?(@[?(@)])])]", 10);
        due.answer("$[?(@[?(@)])][?(@[?(@)])]", 0);
        due.answer("$[?(((@)))&&(((@)))||@[?@[?@[?@]]]]", 0);
        due.answer("$[?count(@[?count(@[?value(@[?count(@)==1])==1])==1])==1]", 0);
        due.queryFault("$[?count(@[?count(@[?value(@[?count(@[?", 38);
    }

    private static void manyNodes() {
        due.anew("[" + "0,".repeat(40) + "0]");
        due.answer("$[?$[*]]", SelectedNodes.MANY);
        due.answer("$[?!$[*]]", SelectedNodes.MANY);
        due.answer("$[?count($[*])==1]", SelectedNodes.MANY);
        due.answer("$[?value($[*])==1]", SelectedNodes.MANY);
        due.answer("$[?$[*].a]", SelectedNodes.MANY);
        due.answer("$[?count($[:40])!=40]", 0);
        due.answer("$[0:40][?@]", 0);
        due.anew("[[" + "0,".repeat(39) + "0],1]");
        due.answer("$[?count(@[*])==40]", 1);
        due.answer("$[?count(@[*,0])==41]", SelectedNodes.MANY);
        due.answer("$[?count($..*)==42]", SelectedNodes.MANY);
        due.answer("$[1:][?count(@[*,0])==41]", 0);
        due.same("a new select counts anew", due.select("$[0][*]"), 40);
    }

    /** With 31 items, a filter whose condition asks a filter of all items tries 31 + 31 * 31 = 992 children. */
    private static void manyTries() {
        String zeros = ",0".repeat(30) + "]";
        due.anew("[[0,0,0,0,0,0,0,0]" + zeros);
        due.answer("$[?$[?@==1]]", 0);
        due.answer("$[?$[?@==1],0][?@==0]", 8);
        due.same("a new select tries anew", due.select("$[?$[?@==1],0][?@==0]"), 8);
        due.anew("[[0,0,0,0,0,0,0,0,0]" + zeros);
        due.answer("$[?$[?@==1]]", 0);
        due.answer("$[?$[?@==1],0][?@==0]", SelectedNodes.MANY);
        due.answer("$[?$[?@==1],0][?@==1]", SelectedNodes.MANY);
        due.answer("$[?$[?@==1],?@==1]", SelectedNodes.MANY);
        due.answer("$[0][?!$[?@==1]]", 9);
        due.anew("[" + "0,".repeat(34) + "0]");
        due.answer("$[?$[?@==1]]", SelectedNodes.MANY);
    }

    private static void shortCuts() {
        due.anew("[" + "0,".repeat(39) + "0]");
        due.answer("$[?@==0||$[?@==1]]", 40);
        due.answer("$[?@==1&&$[?@==1]]", 0);
        due.answer("$[?@==0&&$[?@==1]]", SelectedNodes.MANY);
        due.answer("$[?@==1||$[?@==1]]", SelectedNodes.MANY);
        due.answer("$[?$[?@==1]&&@==1]", SelectedNodes.MANY);
        due.answer("$[?$[?@==1]||@==0]", SelectedNodes.MANY);
        due.answer("$[?@==1&&$[?@==1]||@==0]", 40);
        due.answer("$[?(@==0||$[?@==1])&&!(@==1&&$[*,*])]", 40);
        due.answer("$[?@||$[*,*]]", 40);
        due.answer("$[?@.a&&$[*,*]]", 0);
    }
}

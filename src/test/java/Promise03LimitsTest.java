/** Promise 3: the sizes that the document names: what is just full, and what is one too many. */
public final class Promise03LimitsTest {
    public static void main(String[] args) {
        Bench b = new Bench("Promise03LimitsTest");
        operands(b);
        dictionaryStack(b);
        user(b);
        values(b);
        valuesOfProcedures(b);
        bytes(b);
        dictionaries(b);
        names(b);
        namesOfStrings(b);
        out(b);
        b.end();
    }

    /** "OPERANDS (60 at most)" */
    private static void operands(Bench b) {
        b.withOperands(59);
        b.endsHere("7");
        b.due("operands", b.machine.count(0), 60);
        b.failsHere("8", 13, "-");
        b.due("the 60th", b.machine.at(0, 1), 7);
        b.due("the first", b.machine.at(59, 0), 0);
    }

    /** "DICTIONARIES (10 at most): at first SYSTEM .. and USER" */
    private static void dictionaryStack(Bench b) {
        b.fresh();
        b.endsHere("7 {currentdict begin} repeat 1 dict begin countdictstack");
        b.due("ten", b.operands(), "10");
        b.due("ten are told", b.machine.count(1), 10);
        b.endsHere("currentdict");
        b.due("the last one", b.operands(), "10 dict2");
        b.failsHere("begin", 11, "begin");
        b.due("ten are told", b.machine.count(1), 10);
        b.endsHere("/k 1 def k /k where");
        b.due("the last one is looked through", b.operands(), "10 dict2 1 dict2 true");
        b.endsHere("clear 8 {end} repeat");
        b.due("two", b.machine.count(1), 2);
        b.failsHere("end", 10, "end");
        b.due("two", b.machine.count(1), 2);
    }

    /** "USER, empty, with room for 20" */
    private static void user(Bench b) {
        b.fresh();
        b.endsHere("0 1 19 {dup def} for");
        b.due("pairs", b.machine.dictionary(1, -2, 0), 20);
        b.endsHere("/x 20");
        b.failsHere("def", 9, "def");
        b.failsHere("store", 9, "store");
        b.endsHere("clear currentdict /x 20");
        b.failsHere("put", 9, "put");
        b.endsHere("clear 19 /again def 0 /first store currentdict 5 /sixth put");
        b.due("a key that is there has room", b.machine.dictionary(1, -2, 0), 20);
        b.endsHere("19 load 0 load 5 load currentdict 7 undef /x 20 def x");
        b.due("room that undef made", b.operands(), "/again /first /sixth 20");
        b.due("the last pair", b.machine.dictionary(1, 19, 3), 20);
        b.endsHere("clear 7 7");
        b.failsHere("def", 9, "def");
    }

    /** "more than 600 values of arrays .. in all": each row counts, also one that nothing holds any more. */
    private static void values(Bench b) {
        b.fresh();
        b.endsHere("200 array 200 array 198 array clear");
        b.endsHere("3");
        b.failsHere("array", 2, "array");
        b.due("values", b.machine.count(5), 598);
        b.endsHere("clear 2 array");
        b.due("values", b.machine.count(5), 600);
        b.endsHere("clear 1");
        b.failsHere("array", 2, "array");
        b.endsHere("clear 0 array [ ] { }");
        b.due("empty ones still come", b.operands(), "[] [] {}");
        b.due("where the storage ends", b.machine.at(0, 1), 600);
        b.endsHere("clear [ 7");
        b.failsHere("]", 2, "]");
        b.due("values", b.machine.count(5), 600);
        b.fresh();
        b.endsHere("200 array 200 array 198 array clear [ 7 8 9");
        b.failsHere("]", 2, "]");
        b.endsHere("pop ]");
        b.due("the last two", b.operands(), "[7 8]");
        b.due("their place", b.machine.at(0, 1), 598);
        b.due("the last value", b.machine.value(599, 1), 8);
        b.endsHere("dup 1 9 put dup 0 1 getinterval");
        b.due("they can be changed", b.operands(), "[7 9] [7]");
    }

    /** "(counted when a row is made: of a procedure at its })" */
    private static void valuesOfProcedures(Bench b) {
        b.fresh();
        b.endsHere("200 array 200 array 198 array clear");
        b.failsHere("{1 2 3}", 2, "-");
        b.due("none was made", b.machine.count(5), 598);
        b.failsHere("{{1 2} 3}", 2, "-");
        b.due("the inner one was made", b.machine.count(5), 600);
        b.fresh();
        b.endsHere("200 array 200 array 198 array clear {1 2}");
        b.due("just full", b.operands(), "{1 2}");
        b.failsHere("{1}", 2, "-");
        b.failsHere("{{}}", 2, "-");
        b.endsHere("{}");
        b.due("an empty one", b.operands(), "{1 2} {}");
        b.fresh();
        b.endsHere("200 array 200 array 198 array clear");
        // Without its } it is no row yet: it fails by its end.
        b.failsHere("{1 2 3", 1, "-");
        b.due("none was made", b.machine.count(5), 598);
    }

    /** "600 bytes of strings" */
    private static void bytes(Bench b) {
        b.fresh();
        b.endsHere("200 string 200 string 197 string clear 4");
        b.failsHere("string", 2, "string");
        b.failsHere("(abcd)", 2, "-");
        b.failsHere("(abcd", 1, "-");
        b.failsHere("{(abcd)}", 2, "-");
        b.due("bytes", b.machine.count(6), 597);
        b.endsHere("pop (ab) 1 string");
        b.due("bytes", b.machine.count(6), 600);
        b.due("just full", b.operands(), "(ab) (\0)");
        b.endsHere("dup 0 255 put");
        b.due("the last byte", b.machine.octet(599), 255);
        b.failsHere("(a)", 2, "-");
        b.endsHere("1");
        b.failsHere("string", 2, "string");
        b.endsHere("clear () 0 string");
        b.due("empty ones still come", b.operands(), "() ()");
        b.due("where the storage ends", b.machine.at(0, 1), 600);
    }

    /** "20 dictionaries", SYSTEM and USER among them */
    private static void dictionaries(Bench b) {
        b.fresh();
        b.endsHere("17 {0 dict pop} repeat");
        b.due("dictionaries", b.machine.count(7), 19);
        b.endsHere("20 dict");
        b.due("the last one", b.operands(), "dict19");
        b.endsHere("0");
        b.failsHere("dict", 2, "dict");
        b.endsHere("clear <<");
        b.failsHere(">>", 2, ">>");
        b.endsHere("/a 1");
        b.failsHere(">>", 2, ">>");
        b.due("dictionaries", b.machine.count(7), 20);
        b.fresh();
        b.endsHere("17 {0 dict pop} repeat << /a 1 >>");
        b.due("by >>", b.operands(), "dict19");
        b.endsHere("<<");
        b.failsHere(">>", 2, ">>");
    }

    private static void fillNames(Bench b, int upTo) {
        b.fresh();
        for (int n = 83; n < upTo; n++) {
            b.endsHere("/n" + n + " pop");
        }
        b.due("names", b.machine.count(4), upTo);
    }

    /** "160 names": those of operators and types among them */
    private static void names(Bench b) {
        fillNames(b, 159);
        b.endsHere("/last");
        b.due("names", b.machine.count(4), 160);
        b.due("the last one", b.machine.at(0, 1), 159);
        b.failsHere("/other", 2, "-");
        b.failsHere("other", 2, "-");
        b.failsHere("/", 2, "-");
        b.failsHere("{other}", 2, "-");
        b.failsHere("nope", 2, "-");
        b.failsHere("last", 5, "last");
        b.endsHere("/n83 /n158 /add /operatortype 2 type");
        b.due("those that are there", b.operands(), "/last /n83 /n158 /add /operatortype /integertype");
        b.due("names", b.machine.count(4), 160);
    }

    /** "2 of the name that a string as a key becomes (it is met then, whatever comes of it)" */
    private static void namesOfStrings(Bench b) {
        fillNames(b, 159);
        b.endsHere("currentdict (last) known (other) 1");
        b.due("met", b.machine.count(4), 160);
        b.failsHere("def", 2, "def");
        b.failsHere("store", 2, "store");
        b.endsHere("pop");
        b.failsHere("load", 2, "load");
        b.failsHere("where", 2, "where");
        b.endsHere("clear currentdict (other)");
        b.failsHere("known", 2, "known");
        b.failsHere("get", 2, "get");
        b.failsHere("undef", 2, "undef");
        b.endsHere("1");
        b.failsHere("put", 2, "put");
        b.endsHere("clear << (other) 1");
        b.failsHere(">>", 2, ">>");
        b.due("no dictionary was made", b.machine.count(7), 2);
        b.endsHere("clear currentdict (n83) known (last) 5 def (last) load");
        b.due("names that are there", b.operands(), "false 5");
    }

    /** "1000 bytes of OUT in all" */
    private static void out(Bench b) {
        b.fresh();
        b.endsHere("/s 199 string def 5 {s print} repeat");
        b.due("bytes", b.machine.count(2), 995);
        b.endsHere("(abcdef)");
        b.failsHere("print", 2, "print");
        b.endsHere("pop 12345");
        b.failsHere("=", 2, "=");
        b.endsHere("pop (abcde)");
        b.failsHere("=", 2, "=");
        for (String text : new String[] {"null", "false", "/abcde", "/abcde cvx", "-1234", "currentdict", "[]", "/count load"}) {
            b.endsHere("clear " + text);
            b.failsHere("=", 2, "=");
        }
        b.due("nothing of them was written", b.machine.count(2), 995);
        b.endsHere("clear (abcde) print");
        b.due("just full", b.machine.count(2), 1000);
        b.due("the last byte", b.machine.out(999), 'e');
        b.endsHere("() print ()");
        b.failsHere("=", 2, "=");
        b.endsHere("pop (f)");
        b.failsHere("print", 2, "print");
        b.due("what is written stays", b.machine.out(999), 'e');
        b.fresh();
        b.endsHere("/s 199 string def 5 {s print} repeat true =");
        b.due("just full by =", b.machine.count(2), 1000);
        b.due("the last byte", b.machine.out(999), 10);
    }
}

/**
 * Promise 3: "ERRORS (the first one that fits, looked at in this order: 1, 3, 4, 2 of the name that a string as a key
 * becomes (it is met then, whatever comes of it), 5 to 12, 2 of all else, 13; but where an operator says otherwise".
 */
public final class Promise03OrderTest {
    private static final String LONG = "(0123456789abcdefg)";

    public static void main(String[] args) {
        Bench b = new Bench("Promise03OrderTest");
        keysBeforeOthers(b);
        longKeys(b);
        met(b);
        notMet(b);
        rangesBeforeLimits(b);
        pairs(b);
        saidOtherwise(b);
        overflowLast(b);
        ofTokens(b);
        ofFullTokens(b);
        b.end();
    }

    /** 4 comes before 2 of a key's name, and before 5 to 12. */
    private static void keysBeforeOthers(Bench b) {
        b.fails("5 " + LONG + " known", 4, "known", "5 " + LONG);
        b.fails("5 " + LONG + " undef", 4, "undef", "5 " + LONG);
        b.fails("[1] " + LONG + " get", 4, "get", "[1] " + LONG);
        b.fails("[1] " + LONG + " 5 put", 4, "put", "[1] " + LONG + " 5");
        b.fails("(abc) " + LONG + " 5 put", 4, "put", "(abc) " + LONG + " 5");
        b.fails("(abc) 9 true put", 4, "put", "(abc) 9 true");
        b.fails("true 0 idiv", 4, "idiv", "true 0");
        b.fails("null 0 mod", 4, "mod", "null 0");
        b.fails("true 0 1 {} for", 4, "for", "true 0 1 {}");
        b.fails("1 0 1 [] for", 4, "for", "1 0 1 []");
        b.fails("-1 [] repeat", 4, "repeat", "-1 []");
        b.fails("[1] -1 true getinterval", 4, "getinterval", "[1] -1 true");
        b.fails("[1] -1 () putinterval", 4, "putinterval", "[1] -1 ()");
        b.fails("(a) 9 [] putinterval", 4, "putinterval", "(a) 9 []");
        b.fails("/add where pop null 1 put", 4, "put", "dict0 null 1");
        b.fails("/add where pop null undef", 4, "undef", "dict0 null");
        b.fails("/add where pop begin null 1 def", 4, "def", "null 1");
        b.fails("8 {currentdict begin} repeat 5 begin", 4, "begin", "5");
    }

    /** 2 of a key's name comes before 5 and 9. */
    private static void longKeys(Bench b) {
        b.fails(LONG + " load", 2, "load", LONG);
        b.fails(LONG + " where", 2, "where", LONG);
        b.fails(LONG + " 1 def", 2, "def", LONG + " 1");
        b.fails(LONG + " 1 store", 2, "store", LONG + " 1");
        b.fails("currentdict " + LONG + " get", 2, "get", "dict1 " + LONG);
        b.fails("currentdict " + LONG + " known", 2, "known", "dict1 " + LONG);
        b.fails("currentdict " + LONG + " undef", 2, "undef", "dict1 " + LONG);
        b.fails("0 dict " + LONG + " 1 put", 2, "put", "dict2 " + LONG + " 1");
        b.fails("0 dict begin " + LONG + " 1 def", 2, "def", LONG + " 1");
        b.fails("/add where pop " + LONG + " 1 put", 2, "put", "dict0 " + LONG + " 1");
        b.fails("/add where pop " + LONG + " undef", 2, "undef", "dict0 " + LONG);
        b.fails("/add where pop begin " + LONG + " 1 def", 2, "def", LONG + " 1");
        b.fails("<< " + LONG + " 1 >>", 2, ">>", "mark " + LONG + " 1");
        b.due("no name was met", b.machine.count(4), 83);
        // Sixteen bytes are a name's, also behind a part of a longer string.
        b.leaves(LONG + " 0 16 getinterval 5 def 0123456789abcdef", "5");
        b.leaves("(0123456789abcdef) where", "false");
        b.due("the name was met", b.machine.count(4), 84);
    }

    /** "(it is met then, whatever comes of it)" */
    private static void met(Bench b) {
        b.fails("(q) load", 5, "load", "(q)");
        b.due("met by load", b.machine.count(4), 84);
        b.fails("currentdict (q) get", 5, "get", "dict1 (q)");
        b.due("met by get", b.machine.count(4), 84);
        b.fails("0 dict (q) 1 put", 9, "put", "dict2 (q) 1");
        b.due("met by put", b.machine.count(4), 84);
        b.fails("0 dict begin (q) 1 def", 9, "def", "(q) 1");
        b.due("met by def", b.machine.count(4), 84);
        b.fails("0 dict begin (q) 1 store", 9, "store", "(q) 1");
        b.due("met by store", b.machine.count(4), 84);
        b.fails("/add where pop (q) 1 put", 9, "put", "dict0 (q) 1");
        b.due("met by put into SYSTEM", b.machine.count(4), 84);
        b.fails("/add where pop (q) undef", 9, "undef", "dict0 (q)");
        b.due("met by undef of SYSTEM", b.machine.count(4), 84);
        b.leaves("currentdict (q) known (r) where currentdict (s) undef", "false false");
        b.due("met by known, where, undef", b.machine.count(4), 86);
        b.leaves("() where", "false");
        b.due("the name without bytes", b.nameText(83), "");
        b.leaves("/add where pop (add) known (sub) load", "true --sub--");
        b.due("those that are there are not met anew", b.machine.count(4), 83);
    }

    private static void notMet(Bench b) {
        String[] texts = {"(q) def", "(q) known", "5 (q) known", "[1] (q) get", "(q) 1 put", "5 (q) 1 put", "<< (q) >>", "(q) 1 >>",
            "<< (q) 1 null 2 >>", "(q) undef", "(q) begin"};
        for (String text : texts) {
            b.fresh();
            b.due(text, b.run(text), 2);
            b.due(text + " meets no name", b.machine.count(4), 83);
        }
        b.leaves("(q) (q) eq (q) length (q) cvx cvlit type", "true 1 /stringtype");
        b.due("nor do these", b.machine.count(4), 83);
    }

    /** 5 to 12 come before 2 of all else. */
    private static void rangesBeforeLimits(Bench b) {
        b.fresh();
        b.endsHere("200 array 200 array 200 array clear 201");
        b.failsHere("array", 6, "array");
        b.endsHere("clear -1");
        b.failsHere("array", 6, "array");
        b.endsHere("clear 1");
        b.failsHere("]", 8, "]");
        b.failsHere("array", 2, "array");
        b.fresh();
        b.endsHere("200 string 200 string 200 string clear 201");
        b.failsHere("string", 6, "string");
        b.endsHere("clear -1");
        b.failsHere("string", 6, "string");
        b.endsHere("clear 1");
        b.failsHere("string", 2, "string");
        b.fresh();
        b.endsHere("18 {0 dict pop} repeat 21");
        b.failsHere("dict", 6, "dict");
        b.endsHere("clear -1");
        b.failsHere("dict", 6, "dict");
        b.endsHere("clear 0");
        b.failsHere("dict", 2, "dict");
    }

    /** ">>: .. (8; then 6 for an odd number; then 4 for a key that is none", then 2 of a key's name, then 2 of a dictionary. */
    private static void pairs(Bench b) {
        b.fails("null >>", 8, ">>", "null");
        b.fails("<< null >>", 6, ">>", "mark null");
        b.fails("<< null 1 null >>", 6, ">>", "mark null 1 null");
        b.fails("<< null 1 >>", 4, ">>", "mark null 1");
        b.fails("<< /a 1 [] 2 >>", 4, ">>", "mark /a 1 [] 2");
        b.fails("<< null 1 " + LONG + " 2 >>", 4, ">>", "mark null 1 " + LONG + " 2");
        b.fails("<< " + LONG + " 1 null 2 >>", 4, ">>", "mark " + LONG + " 1 null 2");
        b.leaves("<< /a null true [] >> length", "2");
        b.fresh();
        b.endsHere("18 {0 dict pop} repeat << (q)");
        b.failsHere(">>", 6, ">>");
        b.due("no name was met", b.machine.count(4), 83);
        b.endsHere("1 null 1");
        b.failsHere(">>", 4, ">>");
        b.due("no name was met", b.machine.count(4), 83);
        b.endsHere("pop pop (r) 2");
        b.failsHere(">>", 2, ">>");
        b.due("both names were met", b.machine.count(4), 85);
        b.due("the lower one first", b.nameText(83) + b.nameText(84), "qr");
        b.endsHere("cleartomark 5");
        b.failsHere(">>", 8, ">>");
    }

    /** copy, index, roll: "behind 3 and 4: 6 for n below 0; 3 if there are not so many"; astore: "(3)" */
    private static void saidOtherwise(Bench b) {
        b.fails("-1 copy", 6, "copy", "-1");
        b.fails("-2147483648 copy", 6, "copy", "-2147483648");
        b.fails("1 copy", 3, "copy", "1");
        b.fails("2147483647 copy", 3, "copy", "2147483647");
        b.fails("-1 index", 6, "index", "-1");
        b.fails("0 index", 3, "index", "0");
        b.fails("2147483647 index", 3, "index", "2147483647");
        b.fails("-1 5 roll", 6, "roll", "-1 5");
        b.fails("1 5 roll", 3, "roll", "1 5");
        b.fails("2147483647 5 roll", 3, "roll", "2147483647 5");
        b.fails("-1 null roll", 4, "roll", "-1 null");
        b.fails("null -1 roll", 4, "roll", "null -1");
        b.fails("null index", 4, "index", "null");
        b.fails("null copy", 4, "copy", "null");
        b.fails("1 array astore", 3, "astore", "[null]");
        b.fails("5 2 array astore", 3, "astore", "5 [null null]");
        b.fails("200 array astore", 3, "astore", "[" + "null ".repeat(200).trim() + "]");
    }

    /** "13 stackoverflow: more operands than there may be (looked at last)" */
    private static void overflowLast(Bench b) {
        b.withOperands(59);
        b.endsHere("60");
        b.failsHere("copy", 3, "copy");
        b.endsHere("pop 59");
        b.failsHere("copy", 13, "copy");
        b.endsHere("pop -1");
        b.failsHere("copy", 6, "copy");
        b.failsHere("counttomark", 8, "counttomark");
        b.failsHere("nope", 5, "nope");
        b.failsHere("{{{{{{{{{", 2, "-");
        b.failsHere("/0123456789abcdefg", 2, "-");
        b.failsHere(")", 1, "-");
        b.failsHere("(", 1, "-");
        b.endsHere("pop (0123456789abcdefg)");
        b.failsHere("where", 2, "where");
        b.fresh();
        b.endsHere("200 array 200 array 200 array clear");
        for (int i = 0; i < 60; i++) {
            b.endsHere("null");
        }
        b.failsHere("{1}", 2, "-");
        b.failsHere("{}", 13, "-");
    }

    /** "of a token that is read that counts to which its bytes come first, also 2 at a ninth {, behind a name .. too much" */
    private static void ofTokens(Bench b) {
        String name = "0123456789abcdefg";
        b.fails("{" + name + " )}", 2, "-", "");
        b.fails("{)" + name + "}", 1, "-", "");
        b.fails("{" + name + ")}", 2, "-", "");
        b.fails("{/" + name + " \377}", 2, "-", "");
        b.fails("{\377/" + name + "}", 1, "-", "");
        b.fails("{<" + name + "}", 1, "-", "");
        b.fails("{" + name + ">}", 2, "-", "");
        b.fails("{" + name, 2, "-", "");
        b.fails("{" + name + " (", 2, "-", "");
        b.fails("{{{{{{{{{)", 2, "-", "");
        b.fails("{{{{{{{{){", 1, "-", "");
        b.fails("{{{{{{{{ " + name + " {", 2, "-", "");
        b.fails("{{{{{{{{ (", 1, "-", "");
        b.fails("{{{{{{{{{ (", 2, "-", "");
        // A string without its end has no place where it would be too much.
        b.fails("{(" + name, 1, "-", "");
        // What stands behind the error is not read.
        b.fails("{x " + name + " y}", 2, "-", "");
        b.due("names", b.machine.count(4), 84);
        b.fails("{x ) y (abc) {1} }", 1, "-", "");
        b.due("names", b.machine.count(4), 84);
        b.due("bytes", b.machine.count(6), 0);
        b.due("values", b.machine.count(5), 0);
        b.fails("{x {y (abc)} {1 2", 1, "-", "");
        b.due("names", b.machine.count(4), 85);
        b.due("bytes", b.machine.count(6), 3);
        b.due("values", b.machine.count(5), 2);
    }

    /** ".. behind .. a string or a } that is too much; then that of its end" */
    private static void ofFullTokens(Bench b) {
        b.fresh();
        b.endsHere("200 string 200 string 198 string 200 array 200 array 198 array clear");
        b.failsHere("{(abc) )}", 2, "-");
        b.failsHere("{) (abc)}", 1, "-");
        b.failsHere("{(abc)", 2, "-");
        b.failsHere("{(abc", 1, "-");
        b.failsHere("{{1 2 3} )}", 2, "-");
        b.failsHere("{) {1 2 3}}", 1, "-");
        b.failsHere("{{1 2 3}", 2, "-");
        b.failsHere("{{1 2 3", 1, "-");
        b.failsHere("{1 2 3 )}", 1, "-");
        b.due("bytes", b.machine.count(6), 598);
        b.due("values", b.machine.count(5), 598);
        b.failsHere("{(ab) {1 2} )}", 1, "-");
        b.due("bytes", b.machine.count(6), 600);
        b.due("values", b.machine.count(5), 600);
    }
}

/** Promise 3: the edges of the operators that arrange operands, of numbers and of comparisons, each with a test of its own. */
public final class Promise03StackEdgesTest {
    private static final String MIN = "-2147483648";
    private static final String MAX = "2147483647";

    public static void main(String[] args) {
        Bench b = new Bench("Promise03StackEdgesTest");
        arranging(b);
        rolling(b);
        marks(b);
        wrapping(b);
        quotients(b);
        equal(b);
        equalPlaces(b);
        order(b);
        orderOfParts(b);
        bits(b);
        b.end();
    }

    private static void arranging(Bench b) {
        b.leaves("1 pop", "");
        b.leaves("1 2 exch exch", "1 2");
        b.leaves("{} dup", "{} {}");
        b.leaves("0 copy", "");
        b.leaves("5 0 copy", "5");
        b.leaves("5 1 copy", "5 5");
        b.leaves("5 6 2 copy", "5 6 5 6");
        b.fails("5 6 3 copy", 3, "copy", "5 6 3");
        b.leaves("5 0 index", "5 5");
        b.leaves("5 6 1 index", "5 6 5");
        b.fails("5 6 2 index", 3, "index", "5 6 2");
        b.fails("5 6 " + MIN + " index", 6, "index", "5 6 " + MIN);
        b.leaves("clear", "");
        b.leaves("1 2 3 clear", "");
        b.leaves("count", "0");
        b.leaves("count count count", "0 1 2");
        b.leaves("mark count", "mark 1");
    }

    /** "the n top ones go j places up, around (down, if j is below 0" */
    private static void rolling(Bench b) {
        b.leaves("0 0 roll", "");
        b.leaves("0 5 roll", "");
        b.leaves("7 0 5 roll", "7");
        b.leaves("7 1 5 roll", "7");
        b.leaves("7 8 1 -5 roll", "7 8");
        b.leaves("1 2 3 4 4 0 roll", "1 2 3 4");
        b.leaves("1 2 3 4 4 1 roll", "4 1 2 3");
        b.leaves("1 2 3 4 4 3 roll", "2 3 4 1");
        b.leaves("1 2 3 4 4 4 roll", "1 2 3 4");
        b.leaves("1 2 3 4 4 5 roll", "4 1 2 3");
        b.leaves("1 2 3 4 4 -1 roll", "2 3 4 1");
        b.leaves("1 2 3 4 4 -4 roll", "1 2 3 4");
        b.leaves("1 2 3 4 4 -5 roll", "2 3 4 1");
        b.leaves("1 2 3 4 2 1 roll", "1 2 4 3");
        b.leaves("1 2 3 3 " + MAX + " roll", "3 1 2");
        b.leaves("1 2 3 3 " + MIN + " roll", "3 1 2");
        b.fails("1 2 3 4 1 roll", 3, "roll", "1 2 3 4 1");
        b.fails("1 2 " + MIN + " 1 roll", 6, "roll", "1 2 " + MIN + " 1");
    }

    /** "cleartomark, counttomark: up to the topmost mark (8; cleartomark with it)" */
    private static void marks(Bench b) {
        b.leaves("mark cleartomark", "");
        b.leaves("1 mark cleartomark", "1");
        b.leaves("mark mark cleartomark", "mark");
        b.leaves("mark counttomark", "mark 0");
        b.leaves("1 mark mark 2 counttomark", "1 mark mark 2 1");
        b.leaves("[ 1 cleartomark << 2 cleartomark", "");
        b.leaves("1 mark ]", "1 []");
        b.leaves("1 mark >>", "1 dict2");
        b.leaves("<< 1 2 ]", "[1 2]");
        b.leaves("[ 1 2 >> length", "1");
        b.leaves("mark [ mark ]", "mark mark []");
        b.fails("cleartomark", 8, "cleartomark", "");
        b.fails("counttomark", 8, "counttomark", "");
        b.fails("]", 8, "]", "");
        b.fails(">>", 8, ">>", "");
        b.fails("[ 1 ] ]", 8, "]", "[1]");
    }

    /** "numbers, wrapping around" */
    private static void wrapping(Bench b) {
        b.leaves(MAX + " 1 add " + MIN + " -1 add", MIN + " " + MAX);
        b.leaves(MIN + " " + MIN + " add " + MAX + " " + MAX + " add", "0 -2");
        b.leaves(MIN + " 1 sub " + MAX + " -1 sub", MAX + " " + MIN);
        b.leaves("0 " + MIN + " sub", MIN);
        b.leaves("65536 65536 mul 65536 32768 mul 46341 46341 mul", "0 " + MIN + " -2147479015");
        b.leaves(MAX + " " + MAX + " mul " + MIN + " " + MIN + " mul " + MIN + " -1 mul", "1 0 " + MIN);
        b.leaves(MIN + " neg " + MIN + " abs " + MAX + " neg 0 neg 0 abs", MIN + " " + MIN + " -2147483647 0 0");
        b.leaves("1 abs -1 abs 1 neg -1 neg", "1 1 -1 1");
    }

    /** "(7 for a quotient by 0; quotients toward 0, the rest has the sign of a)" */
    private static void quotients(Bench b) {
        b.leaves("7 3 idiv -7 3 idiv 7 -3 idiv -7 -3 idiv", "2 -2 -2 2");
        b.leaves("7 3 mod -7 3 mod 7 -3 mod -7 -3 mod", "1 -1 1 -1");
        b.leaves("2 3 idiv -2 3 idiv 0 3 idiv 0 -3 idiv", "0 0 0 0");
        b.leaves("2 3 mod -2 3 mod 0 3 mod 6 3 mod -6 3 mod", "2 -2 0 0 0");
        b.leaves(MIN + " -1 idiv " + MIN + " -1 mod", MIN + " 0");
        b.leaves(MIN + " 1 idiv " + MIN + " " + MIN + " idiv " + MAX + " " + MIN + " idiv", MIN + " 1 0");
        b.leaves(MIN + " 2 mod " + MIN + " " + MAX + " mod " + MAX + " " + MIN + " mod", "0 -1 " + MAX);
        b.fails("0 0 idiv", 7, "idiv", "0 0");
        b.fails("5 0 idiv", 7, "idiv", "5 0");
        b.fails("0 0 mod", 7, "mod", "0 0");
        b.fails(MIN + " 0 mod", 7, "mod", MIN + " 0");
    }

    /** "EQUAL are two values of one kind .. and a name and a string of the same bytes" */
    private static void equal(Bench b) {
        String[][] same = {
            {"null", "null"}, {"0", "0"}, {MIN, "2147483648"}, {"true", "true"}, {"false", "false"}, {"mark", "["}, {"/a", "/a"},
            {"/a", "/a cvx"}, {"/", "/"}, {"/", "()"}, {"()", "()"}, {"(a)", "/a"}, {"/a cvx", "(a)"}, {"(abc)", "(xabcx) 1 3 getinterval"},
            {"0 string", "()"}, {"1 string", "(\0)"}, {"/add load", "/add load"}, {"/add load", "(add) load cvlit"},
            {"currentdict", "currentdict"}, {"/add where pop", "/sub where pop"}, {"(\377)", "(\377)"},
            {"/0123456789abcdef", "(0123456789abcdef)"},
        };
        for (String[] two : same) {
            tryEqual(b, two[0], two[1], true);
            tryEqual(b, two[1], two[0], true);
        }
        String[][] others = {
            {"null", "0"}, {"null", "mark"}, {"null", "false"}, {"0", "false"}, {"1", "true"}, {"true", "false"}, {"0", "1"}, {"1", "-1"},
            {"/a", "/b"}, {"/a", "/A"}, {"/a", "/"}, {"(a)", "()"}, {"(a)", "(ab)"}, {"(a)", "(b)"}, {"/a", "(ab)"}, {"/ab", "(a)"},
            {"/a", "(\0)"}, {"/", "(\0)"}, {"1", "(1)"}, {"/1", "1"}, {"/add", "/add load"}, {"(add)", "/add load"},
            {"/add load", "/sub load"}, {"currentdict", "/add where pop"}, {"1 dict", "1 dict"}, {"currentdict", "1"},
            {"[]", "()"}, {"[]", "null"}, {"0 array", "0 dict"}, {"(a)", "(a\0)"}, {"/0123456789abcdef", "(0123456789abcdefg)"},
            {"(\200)", "(\0)"}, {"83", "/a"}, {"0", "/pop"}, {"0", "/pop load"}, {"1", "currentdict"}, {"(abc)", "(abd)"},
        };
        for (String[] two : others) {
            tryEqual(b, two[0], two[1], false);
            tryEqual(b, two[1], two[0], false);
        }
    }

    private static void tryEqual(Bench b, String first, String second, boolean equal) {
        b.leaves(first + " " + second + " eq", Boolean.toString(equal));
        b.leaves(first + " " + second + " ne", Boolean.toString(!equal));
    }

    /** "arrays of the same place (in the storage of all rows, as at() tells it) and the same length" */
    private static void equalPlaces(Bench b) {
        b.leaves("[1] dup eq {1} dup cvlit eq [1] [1] eq", "true true false");
        b.leaves("[1 2] dup 0 1 getinterval eq [1 2] dup 1 1 getinterval eq", "false false");
        b.leaves("[1 2] dup 0 2 getinterval eq", "true");
        b.leaves("[1 2] dup 1 1 getinterval exch 1 1 getinterval eq", "true");
        // Two without values that were made at one place are the same; behind another row they are not.
        b.leaves("[] [] eq {} {} eq 0 array [] eq {} [] eq", "true true true true");
        b.leaves("[] [1] pop [] eq", "false");
        b.leaves("[] [1] 0 0 getinterval eq", "true");
        b.leaves("[1] dup 1 0 getinterval exch 0 0 getinterval eq", "false");
        b.leaves("[1] 1 0 getinterval [2] 0 0 getinterval eq", "true");
    }

    /** "two strings by their bytes (0 .. 255; what is only the beginning of the other one is less)" */
    private static void order(Bench b) {
        String[][] less = {
            {"0", "1"}, {"-1", "0"}, {MIN, MAX}, {MIN, "0"}, {"()", "(a)"}, {"(a)", "(ab)"}, {"(a)", "(b)"}, {"(ab)", "(b)"},
            {"(\177)", "(\200)"}, {"(a)", "(\377)"}, {"(\0)", "(\1)"}, {"()", "(\0)"}, {"(a)", "(a\0)"}, {"(A)", "(a)"}, {"(abcz)", "(abd)"},
        };
        for (String[] two : less) {
            String up = two[0] + " " + two[1] + " ";
            String down = two[1] + " " + two[0] + " ";
            b.leaves(up + "lt " + up + "le " + up + "gt " + up + "ge", "true true false false");
            b.leaves(down + "lt " + down + "le " + down + "gt " + down + "ge", "false false true true");
        }
        for (String one : new String[] {"0", MIN, MAX, "()", "(a)", "(\377)", "(abc)"}) {
            String same = one + " " + one + " ";
            b.leaves(same + "lt " + same + "le " + same + "gt " + same + "ge", "false true false true");
        }
    }

    /** What stands behind a part of a string is no byte of it. */
    private static void orderOfParts(Bench b) {
        b.leaves("(ab) (azz) 0 1 getinterval gt (azz) 0 1 getinterval (ab) lt", "true true");
        b.leaves("(ab) (aa\0) 0 1 getinterval gt (ab) (ab\0) 0 2 getinterval eq", "true true");
        b.leaves("(xaz) 1 1 getinterval (yab) 1 1 getinterval eq (abc) 0 0 getinterval (b) 0 0 getinterval ge", "true true");
        b.leaves("(xyz) dup 1 1 getinterval exch 2 1 getinterval lt", "true");
    }

    private static void bits(Bench b) {
        b.leaves("-1 " + MAX + " and 0 " + MIN + " or -1 " + MIN + " xor", MAX + " " + MIN + " " + MAX);
        b.leaves("0 not -1 not " + MAX + " not", "-1 0 " + MIN);
        for (int i = 0; i < 4; i++) {
            boolean x = (i & 2) != 0;
            boolean y = (i & 1) != 0;
            String two = x + " " + y + " ";
            b.leaves(two + "and " + two + "or " + two + "xor", (x && y) + " " + (x || y) + " " + (x != y));
        }
        b.leaves("7 true not 8 false not", "7 false 8 true");
        b.leaves("true 5 not", "true -6");
    }
}

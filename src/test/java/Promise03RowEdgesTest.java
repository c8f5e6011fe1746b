/** Promise 3: the edges of the operators of arrays, strings and kinds, each with a test of its own. */
public final class Promise03RowEdgesTest {
    private static final String MIN = "-2147483648";
    private static final String MAX = "2147483647";

    public static void main(String[] args) {
        Bench b = new Bench("Promise03RowEdgesTest");
        making(b);
        lengths(b);
        getting(b);
        putting(b);
        takingParts(b);
        puttingParts(b);
        loading(b);
        storing(b);
        sharing(b);
        binding(b);
        bindingMany(b);
        converting(b);
        writing(b);
        b.end();
    }

    /** "array, string: n 0 .. 200 (6): a row of nulls, or bytes 0" */
    private static void making(Bench b) {
        for (String operator : new String[] {"array", "string"}) {
            for (String n : new String[] {"-1", "201", MIN, MAX, "600", "65536"}) {
                b.fails(n + " " + operator, 6, operator, n);
            }
            b.leaves("0 " + operator + " length 1 " + operator + " length 200 " + operator + " length", "0 1 200");
            b.due("values or bytes", b.machine.count(operator.equals("array") ? 5 : 6), 201);
        }
        b.leaves("200 array 199 get 200 string 199 get", "null 0");
        b.leaves("[]", "[]");
        b.leaves("5 [6", "5 mark 6");
    }

    private static void lengths(Bench b) {
        b.leaves("[] length {} length () length / length 0 dict length 5 dict length", "0 0 0 0 0 0");
        b.leaves("[1] length {1 2} length (a) length /a length /a cvx length", "1 2 1 1 1");
        b.leaves("/0123456789abcdef length << /a 1 >> length /add where pop length", "16 1 74");
        b.leaves("(a(b)\\)) length [1 2 3] 1 2 getinterval length", "5 2");
    }

    /** "get: of an array or string, i (6): the value, or byte" */
    private static void getting(Bench b) {
        b.leaves("[7 8 9] 0 get [7 8 9] 2 get (a\200\377) 0 get (a\200\377) 2 get (\0) 0 get", "7 9 97 255 0");
        for (String row : new String[] {"[7 8 9]", "{7 8 9}", "(abc)"}) {
            for (String i : new String[] {"-1", "3", MIN, MAX}) {
                b.fails(row + " " + i + " get", 6, "get", row + " " + i);
            }
        }
        b.fails("[] 0 get", 6, "get", "[] 0");
        b.fails("() 0 get", 6, "get", "() 0");
        b.fails("[1 2 3] 0 2 getinterval 2 get", 6, "get", "[1 2] 2");
        b.leaves("[1 2 3] 1 2 getinterval 1 get", "3");
        b.leaves("{x} 0 get {{}} 0 get", "x {}");
    }

    /** "put: into an array, i, a value; a string, i, 0 .. 255 (6)" */
    private static void putting(Bench b) {
        b.leaves("[1 2 3] dup 0 null put dup 2 mark put", "[null 2 mark]");
        b.leaves("(abc) dup 0 0 put dup 2 255 put", "(\0b\377)");
        for (String i : new String[] {"-1", "3", MIN, MAX}) {
            b.fails("[1 2 3] " + i + " 5 put", 6, "put", "[1 2 3] " + i + " 5");
            b.fails("(abc) " + i + " 5 put", 6, "put", "(abc) " + i + " 5");
        }
        for (String octet : new String[] {"-1", "256", MIN, MAX}) {
            b.fails("(abc) 0 " + octet + " put", 6, "put", "(abc) 0 " + octet);
        }
        b.fails("[] 0 1 put", 6, "put", "[] 0 1");
        b.fails("() 0 1 put", 6, "put", "() 0 1");
        b.fails("[1 2 3] 0 2 getinterval 2 5 put", 6, "put", "[1 2] 2 5");
    }

    /** "getinterval: of an array or string, i, n: that part of it, executable as it is (6 when it has not that)" */
    private static void takingParts(Bench b) {
        b.leaves("[1 2 3] 0 3 getinterval [1 2 3] 3 0 getinterval [1 2 3] 2 1 getinterval", "[1 2 3] [] [3]");
        b.leaves("{1 2 3} 0 2 getinterval {} 0 0 getinterval (abc) 1 2 getinterval () 0 0 getinterval", "{1 2} {} (bc) ()");
        b.leaves("{1 2} cvlit 1 1 getinterval", "[2]");
        for (String row : new String[] {"[1 2 3]", "{1 2 3}", "(abc)"}) {
            String[] parts = {"-1 1", "-1 0", "0 -1", "1 -1", "0 4", "1 3", "3 1", "4 0", "4 -1", MAX + " 1", "1 " + MAX, MAX + " " + MAX,
                MIN + " 0", "0 " + MIN, MIN + " " + MIN};
            for (String part : parts) {
                b.fails(row + " " + part + " getinterval", 6, "getinterval", row + " " + part);
            }
        }
        b.fails("[1 2 3] 0 2 getinterval 1 2 getinterval", 6, "getinterval", "[1 2] 1 2");
    }

    /** "putinterval: into an array, or string, at i, one of its kind, as it was before (6 when it does not fit in)" */
    private static void puttingParts(Bench b) {
        b.leaves("[1 2 3] dup 0 [7 8 9] putinterval [1 2 3] dup 2 [7] putinterval", "[7 8 9] [1 2 7]");
        b.leaves("[1 2 3] dup 3 [] putinterval [] dup 0 [] putinterval", "[1 2 3] []");
        b.leaves("(abc) dup 0 (xyz) putinterval (abc) dup 2 (x) putinterval (abc) dup 3 () putinterval", "(xyz) (abx) (abc)");
        b.leaves("{1 2} dup 0 [7] putinterval [1 2] dup 1 {x} putinterval", "{7 2} [1 x]");
        String[][] rows = {{"[1 2 3]", "[7]", "[]", "[7 8 9 0]"}, {"(abc)", "(x)", "()", "(wxyz)"}};
        for (String[] row : rows) {
            for (String i : new String[] {"-1", "3", MIN, MAX}) {
                b.fails(row[0] + " " + i + " " + row[1] + " putinterval", 6, "putinterval", row[0] + " " + i + " " + row[1]);
            }
            for (String i : new String[] {"-1", "4", MIN, MAX}) {
                b.fails(row[0] + " " + i + " " + row[2] + " putinterval", 6, "putinterval", row[0] + " " + i + " " + row[2]);
            }
            b.fails(row[0] + " 0 " + row[3] + " putinterval", 6, "putinterval", row[0] + " 0 " + row[3]);
        }
        // "as it was before": the two may be parts of one row.
        b.leaves("[1 2 3 4 5] dup dup 0 4 getinterval 1 exch putinterval", "[1 1 2 3 4]");
        b.leaves("[1 2 3 4 5] dup dup 1 4 getinterval 0 exch putinterval", "[2 3 4 5 5]");
        b.leaves("[1 2 3] dup dup 0 exch putinterval", "[1 2 3]");
        b.leaves("(abcde) dup dup 0 4 getinterval 1 exch putinterval", "(aabcd)");
        b.leaves("(abcde) dup dup 1 4 getinterval 0 exch putinterval", "(bcdee)");
        b.leaves("200 string dup 0 (x) putinterval dup dup 0 199 getinterval 1 exch putinterval 0 get", "120");
        b.due("byte 1", b.machine.octet(1), 'x');
        b.due("byte 2", b.machine.octet(2), 0);
    }

    /** "aload: all values, then the array itself" */
    private static void loading(Bench b) {
        b.leaves("[] aload", "[]");
        b.leaves("{} aload", "{}");
        b.leaves("[1 {2} /x cvx] aload", "1 {2} x [1 {2} x]");
        b.leaves("5 {a b} aload", "5 a b {a b}");
        b.leaves("[1 2 3] 1 1 getinterval aload", "2 [2]");
    }

    /** "astore: an array's values from below it, the array stays (3)" */
    private static void storing(Bench b) {
        b.leaves("[] astore", "[]");
        b.leaves("5 [] astore", "5 []");
        b.leaves("5 6 {0 0} astore", "{5 6}");
        b.leaves("4 5 6 [0 0] astore", "4 [5 6]");
        b.leaves("5 [1 2 3] 1 1 getinterval astore", "[5]");
        b.due("its neighbours", b.machine.value(0, 1) * 10 + b.machine.value(2, 1), 13);
        b.fails("[0] astore", 3, "astore", "[0]");
        b.fails("5 [1 2] astore", 3, "astore", "5 [1 2]");
        b.leaves("1 array dup astore 0 get length", "1");
        b.leaves("[1 2] aload astore", "[1 2]");
    }

    /** "what is put into it is seen by all that share it" */
    private static void sharing(Bench b) {
        b.leaves("[1 2 3] dup 1 2 getinterval dup 0 9 put", "[1 9 3] [9 3]");
        b.leaves("[1 2 3] dup 1 2 getinterval 1 index 2 9 put", "[1 2 9] [2 9]");
        b.leaves("(abc) dup 1 2 getinterval dup 0 66 put", "(aBc) (Bc)");
        b.leaves("{1 2} dup cvlit dup 0 9 put", "{9 2} [9 2]");
        b.leaves("/s (abc) def s 0 66 put s", "(Bbc)");
        b.leaves("/p {(abc)} def p 0 66 put p", "(Bbc)");
        b.leaves("[1] dup 0 2 index put 0 get 0 get length", "1");
        b.leaves("[1] aload pop [1] 0 get", "1 1");
        b.leaves("(ab) dup cvx 0 66 put", "(Bb)");
    }

    /** "executable names whose value, as found by execution, is an operator become that (each array .. once)" */
    private static void binding(Bench b) {
        b.leaves("{} bind", "{}");
        b.leaves("{add nope /add 5 (add)} bind", "{--add-- nope /add 5 (add)}");
        b.leaves("{{{{add}}}} bind 0 get 0 get 0 get 0 get", "--add--");
        b.leaves("{[ ] << >>} bind", "{--[-- --]-- --<<-- -->>--}");
        b.leaves("/add {sub} def {add sub} bind", "{add --sub--}");
        b.leaves("/plus /add load def {plus} bind", "{--add--}");
        b.leaves("/plus /add cvx def {plus} bind", "{plus}");
        b.leaves("1 dict begin /pop /add load def {pop} bind end {pop} bind", "{--add--} {--pop--}");
        b.leaves("{add {sub}} dup 1 get cvlit 1 index exch 1 exch put bind", "{--add-- [sub]}");
        b.leaves("{add 0 sub} dup dup 1 exch put bind dup 0 get exch 2 get", "--add-- --sub--");
        b.leaves("{add 0} {sub 0} dup 1 3 index put 1 index 1 2 index put bind 0 get exch 0 get", "--sub-- --add--");
        // Two parts of one row that begin at one place are two arrays.
        b.leaves("{add sub} /r 1 index def {0 0} dup 0 /r load 0 1 getinterval put dup 1 /r load put bind pop", "{--add-- --sub--}");
        b.leaves("{add sub} dup 1 1 getinterval bind pop", "{add --sub--}");
        b.leaves("{1 2 add} bind exec", "3");
        // What an earlier bind has seen is nothing to a later one.
        b.leaves("{x} bind /x /add load def {} bind pop", "{x}");
        b.leaves("{x} bind /x /add load def bind", "{--add--}");
        // A row that holds itself many times is gone through once, and what lies deeper is still found.
        b.leaves("/p {" + "0 ".repeat(30) + "{{add}}} def 0 1 29 {/p load exch /p load put} for /p load bind 30 get", "{{--add--}}");
    }

    /** All 600 values of arrays are in use: 586 arrays lie within each other, and the last one that is found has the name. */
    private static void bindingMany(Bench b) {
        b.fresh();
        b.endsHere("/A 200 array def /B 200 array def /C 186 array def");
        // Value i of the row R becomes its first i + 1 values, executable.
        b.endsHere("/f {dup R exch 0 exch 1 add getinterval cvx R 3 1 roll put} def");
        fillWithBeginnings(b, "A", 199);
        fillWithBeginnings(b, "B", 199);
        fillWithBeginnings(b, "C", 184);
        b.endsHere("A 199 B cvx put B 199 C 0 185 getinterval cvx put C 184 C 185 1 getinterval cvx put C 185 /add cvx put");
        b.due("values of arrays", b.machine.count(5), 600);
        b.endsHere("C 185 get A cvx bind length C 185 get");
        b.due("bind of many", b.operands(), "add 200 --add--");
    }

    private static void fillWithBeginnings(Bench b, String row, int n) {
        b.endsHere("/R " + row + " def");
        for (int i = 0; i < n; i += 60) {
            b.endsHere(i + " 1 " + Math.min(i + 59, n - 1) + " /f load for");
        }
    }

    /** "cvx, cvlit: a name or array is executable, literal (others stay)" */
    private static void converting(Bench b) {
        String others = "null 1 true mark (s) currentdict /add load";
        String same = "null 1 true mark (s) dict1 --add--";
        for (String operator : new String[] {"cvx", "cvlit"}) {
            for (int i = 0; i < 7; i++) {
                String text = i < 6 ? others.split(" ")[i] : "/add load";
                b.leaves(text + " " + operator, same.split(" ")[i]);
            }
        }
        b.leaves("/a cvx cvx [] cvx cvx", "a {}");
        b.leaves("/a cvlit {} cvlit cvlit", "/a []");
        b.leaves("/a cvx cvlit [1] cvx cvlit", "/a [1]");
        b.leaves("null xcheck 1 xcheck true xcheck mark xcheck /a xcheck [] xcheck (s) xcheck currentdict xcheck",
            "false false false false false false false false");
        b.leaves("/a cvx xcheck {} xcheck /add load xcheck {} cvlit xcheck", "true true true false");
        b.leaves("/a cvx type {} type 1 type type", "/nametype /arraytype /nametype");
    }

    /** "digits (with -), true, false, a name's bytes, a string's, an operator's name, --nostringval-- for others" */
    private static void writing(Bench b) {
        String[][] texts = {
            {"0", "0"}, {"-0", "0"}, {"1", "1"}, {"-1", "-1"}, {"9", "9"}, {"10", "10"}, {"-10", "-10"}, {"100", "100"}, {"1000000000", "1000000000"},
            {"999999999", "999999999"}, {MAX, MAX}, {MIN, MIN}, {"true", "true"}, {"false", "false"}, {"/", ""}, {"/ab", "ab"}, {"/ab cvx", "ab"},
            {"()", ""}, {"(a\0\377)", "a\0\377"}, {"/add load", "add"}, {"/print load", "print"}, {"/= load", "="}, {"([) load", "["},
            {"null", "--nostringval--"}, {"mark", "--nostringval--"}, {"[]", "--nostringval--"}, {"{1}", "--nostringval--"},
            {"currentdict", "--nostringval--"}, {"(abc) 1 1 getinterval", "b"}, {"/0123456789abcdef", "0123456789abcdef"},
        };
        for (String[] text : texts) {
            b.leaves(text[0] + " =", "");
            b.due(text[0] + " = OUT", b.out(), text[1] + "\n");
        }
        b.leaves("(ab) print () print (\n) print (\377) print (abc) 1 2 getinterval print", "");
        b.due("print", b.out(), "ab\n\377bc");
        b.leaves("7 8 (ab) print =", "7");
        b.due("= takes one", b.out(), "ab8\n");
    }
}

/** Promise 3: the operators of arrays and strings, which share their storage, and those of kinds. */
public final class Promise03RowsTest {
    public static void main(String[] args) {
        Bench b = new Bench("Promise03RowsTest");
        making(b);
        getting(b);
        intervals(b);
        loading(b);
        binding(b);
        kinds(b);
        b.end();
    }

    private static void making(Bench b) {
        b.leaves("2 array 0 array 2 string 0 string", "[null null] [] (\0\0) ()");
        b.leaves("200 array length 200 string length", "200 200");
        b.fails("201 array", 6, "array", "201");
        b.fails("-1 array", 6, "array", "-1");
        b.fails("201 string", 6, "string", "201");
        b.fails("-1 string", 6, "string", "-1");
        b.fails("true array", 4, "array", "true");
        b.fails("string", 3, "string", "");
        b.fails("200 array pop 200 array pop 200 array pop 1 array", 2, "array", "1");
        b.leaves("5 [1 (a) [2]]", "5 [1 (a) [2]]");
        b.leaves("[1 [ 2 ]", "mark 1 [2]");
        b.fails("1 ]", 8, "]", "1");
        b.leaves("[1 2] length (abc) length /abcd length /x cvx length currentdict length", "2 3 4 1 0");
        b.leaves("/ length", "0");
        b.fails("5 length", 4, "length", "5");
        b.fails("/add load length", 4, "length", "--add--");
    }

    private static void getting(Bench b) {
        b.leaves("[5 6] 1 get {a b} 0 get (a\377) 1 get", "6 a 255");
        b.fails("[5] 1 get", 6, "get", "[5] 1");
        b.fails("[5] -1 get", 6, "get", "[5] -1");
        b.fails("() 0 get", 6, "get", "() 0");
        b.fails("[5] true get", 4, "get", "[5] true");
        b.fails("[5] (0) get", 4, "get", "[5] (0)");
        b.fails("5 0 get", 4, "get", "5 0");
        b.fails("0 get", 3, "get", "0");
        b.leaves("[1 2] dup 0 (s) put", "[(s) 2]");
        b.leaves("{1 2} dup 1 /x put", "{1 /x}");
        b.leaves("(abc) dup 1 66 put dup 0 255 put dup 2 0 put", "(\377B\0)");
        b.fails("(abc) 0 256 put", 6, "put", "(abc) 0 256");
        b.fails("(abc) 0 -1 put", 6, "put", "(abc) 0 -1");
        b.fails("(abc) 3 65 put", 6, "put", "(abc) 3 65");
        b.fails("(abc) 9 true put", 4, "put", "(abc) 9 true");
        b.fails("[1] 1 5 put", 6, "put", "[1] 1 5");
        b.fails("[1] /a 5 put", 4, "put", "[1] /a 5");
        b.fails("1 1 put", 3, "put", "1 1");
        b.leaves("[1] dup dup 0 exch put 0 get length", "1");
    }

    private static void intervals(Bench b) {
        b.leaves("[1 2 3 4] 1 2 getinterval {a b c} 0 2 getinterval (abc) 3 0 getinterval", "[2 3] {a b} ()");
        b.leaves("[1 2 3] dup 1 2 getinterval 0 9 put", "[1 9 3]");
        b.leaves("(abc) dup 1 1 getinterval 0 66 put", "(aBc)");
        b.fails("[1 2] 1 2 getinterval", 6, "getinterval", "[1 2] 1 2");
        b.fails("[1 2] -1 1 getinterval", 6, "getinterval", "[1 2] -1 1");
        b.fails("[1 2] 1 -1 getinterval", 6, "getinterval", "[1 2] 1 -1");
        b.fails("[1 2] 2147483647 2147483647 getinterval", 6, "getinterval", "[1 2] 2147483647 2147483647");
        b.fails("[1 2] 3 0 getinterval", 6, "getinterval", "[1 2] 3 0");
        b.fails("currentdict 0 0 getinterval", 4, "getinterval", "dict1 0 0");
        b.leaves("[1 2 3 4] dup 1 [8 9] putinterval (abcd) dup 2 (xy) putinterval", "[1 8 9 4] (abxy)");
        b.leaves("[1 2 3 4] dup dup 0 3 getinterval 1 exch putinterval", "[1 1 2 3]");
        b.leaves("[1 2 3 4] dup dup 1 3 getinterval 0 exch putinterval", "[2 3 4 4]");
        b.leaves("(abcd) dup dup 0 3 getinterval 1 exch putinterval", "(aabc)");
        b.leaves("(ab) dup 2 () putinterval [1] dup 0 {x} putinterval", "(ab) [x]");
        b.fails("[1] 0 (a) putinterval", 4, "putinterval", "[1] 0 (a)");
        b.fails("[1] 1 [2] putinterval", 6, "putinterval", "[1] 1 [2]");
        b.fails("[1] -1 [2] putinterval", 6, "putinterval", "[1] -1 [2]");
        b.fails("[] 2147483647 [2] putinterval", 6, "putinterval", "[] 2147483647 [2]");
        b.fails("[1] 2 [] putinterval", 6, "putinterval", "[1] 2 []");
    }

    private static void loading(Bench b) {
        b.leaves("[1 2] aload", "1 2 [1 2]");
        b.leaves("{a} aload [] aload", "a {a} []");
        b.fails("(a) aload", 4, "aload", "(a)");
        b.leaves("7 8 9 2 array astore", "7 [8 9]");
        b.leaves("7 0 array astore", "7 []");
        b.fails("7 2 array astore", 3, "astore", "7 [null null]");
        b.fails("astore", 3, "astore", "");
        b.fails("(ab) astore", 4, "astore", "(ab)");
        b.leaves("1 array dup astore length", "1");
        b.fresh();
        b.due("60 by aload", b.run("59 array aload"), 0);
        b.due("operands", b.machine.count(0), 60);
        b.fresh();
        b.due("61 by aload", b.run("60 array aload"), 2);
        b.due("the error", b.error(), "13 aload");
        b.due("operands", b.machine.count(0), 1);
    }

    private static void binding(Bench b) {
        b.leaves("{add /sub x {mul} [ 5} bind", "{--add-- /sub x {--mul--} --[-- 5}");
        b.leaves("/add 5 def {add sub} bind", "{add --sub--}");
        b.leaves("/plus /add load def {plus} bind", "{--add--}");
        b.leaves("/plus /add cvx def {plus} bind", "{plus}");
        b.leaves("{add {sub}} dup 1 get cvlit 1 index 1 3 -1 roll put bind", "{--add-- [sub]}");
        b.leaves("{add 1} dup dup 1 exch put bind 0 get", "--add--");
        b.leaves("{add sub} dup 0 1 getinterval bind pop", "{--add-- sub}");
        b.leaves("/f {2 3 add} bind def /add 0 def f", "5");
        b.fails("[1] bind", 4, "bind", "[1]");
        b.fails("bind", 3, "bind", "");
    }

    private static void kinds(Bench b) {
        b.leaves("/a cvx [1] cvx (s) cvx 5 cvx", "a {1} (s) 5");
        b.leaves("/a cvx cvlit {1} cvlit /add load cvlit", "/a [1] --add--");
        b.leaves("/a xcheck /a cvx xcheck {} xcheck [] xcheck /add load xcheck (s) xcheck null xcheck",
            "false true true false true false false");
        b.leaves("null type 1 type true type mark type /a type", "/nulltype /integertype /booleantype /marktype /nametype");
        b.leaves("{} type () type currentdict type /add load type", "/arraytype /stringtype /dicttype /operatortype");
        b.fails("cvx", 3, "cvx", "");
        b.fails("cvlit", 3, "cvlit", "");
        b.fails("xcheck", 3, "xcheck", "");
        b.fails("type", 3, "type", "");
    }
}

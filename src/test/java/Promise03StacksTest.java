/** Promise 3: the operators that arrange operands, and those of numbers, truths and comparisons. */
public final class Promise03StacksTest {
    public static void main(String[] args) {
        Bench b = new Bench("Promise03StacksTest");
        arranging(b);
        numbers(b);
        comparisons(b);
        truths(b);
        b.end();
    }

    private static void arranging(Bench b) {
        b.leaves("1 2 pop", "1");
        b.leaves("1 2 exch", "2 1");
        b.leaves("1 dup", "1 1");
        b.leaves("1 2 3 2 copy", "1 2 3 2 3");
        b.leaves("1 0 copy", "1");
        b.leaves("7 8 9 0 index", "7 8 9 9");
        b.leaves("7 8 9 2 index", "7 8 9 7");
        b.leaves("1 2 3 4 3 1 roll", "1 4 2 3");
        b.leaves("1 2 3 4 3 -1 roll", "1 3 4 2");
        b.leaves("1 2 3 3 7 roll", "3 1 2");
        b.leaves("1 2 3 3 -2147483648 roll", "3 1 2");
        b.leaves("1 2 3 0 5 roll", "1 2 3");
        b.leaves("1 2 clear", "");
        b.leaves("5 6 count", "5 6 2");
        b.leaves("mark [ <<", "mark mark mark");
        b.leaves("1 mark 2 mark 3 4 cleartomark", "1 mark 2");
        b.leaves("1 mark 2 3 counttomark", "1 mark 2 3 2");
        b.fails("pop", 3, "pop", "");
        b.fails("1 exch", 3, "exch", "1");
        b.fails("dup", 3, "dup", "");
        b.fails("copy", 3, "copy", "");
        b.fails("1 true copy", 4, "copy", "1 true");
        b.fails("1 -1 copy", 6, "copy", "1 -1");
        b.fails("1 2 copy", 3, "copy", "1 2");
        b.fails("-1 index", 6, "index", "-1");
        b.fails("1 1 index", 3, "index", "1 1");
        b.fails("1 2147483647 index", 3, "index", "1 2147483647");
        b.fails("1 (x) roll", 4, "roll", "1 (x)");
        b.fails("roll", 3, "roll", "");
        b.fails("-1 0 roll", 6, "roll", "-1 0");
        b.fails("1 2 0 roll", 3, "roll", "1 2 0");
        b.fails("1 cleartomark", 8, "cleartomark", "1");
        b.fails("1 counttomark", 8, "counttomark", "1");
        overflow(b);
    }

    private static void overflow(Bench b) {
        b.fresh();
        b.due("60 operands", b.run("60 {1} repeat"), 0);
        b.due("a token above them", b.run("2"), 2);
        b.due("its error", b.error(), "13 -");
        b.due("dup above them", b.run("dup"), 2);
        b.due("dup's error", b.error(), "13 dup");
        b.due("copy above them", b.run("pop 2 copy"), 2);
        b.due("copy's error", b.error(), "13 copy");
        b.due("count", b.machine.count(0), 60);
        b.due("copy of one", b.run("pop 1 copy"), 0);
        b.due("count behind it", b.machine.count(0), 60);
        b.due("mark", b.run("mark"), 2);
        b.due("mark's error", b.error(), "13 mark");
    }

    private static void numbers(Bench b) {
        b.leaves("2 3 add 2 3 sub 2 3 mul", "5 -1 6");
        b.leaves("2147483647 1 add -2147483648 1 sub", "-2147483648 2147483647");
        b.leaves("65536 65536 mul", "0");
        b.leaves("7 2 idiv -7 2 idiv 7 -2 idiv -7 -2 idiv", "3 -3 -3 3");
        b.leaves("7 2 mod -7 2 mod 7 -2 mod -7 -2 mod", "1 -1 1 -1");
        b.leaves("-2147483648 -1 idiv -2147483648 -1 mod", "-2147483648 0");
        b.leaves("5 neg -2147483648 neg -5 abs -2147483648 abs", "-5 -2147483648 5 -2147483648");
        b.fails("1 0 idiv", 7, "idiv", "1 0");
        b.fails("1 0 mod", 7, "mod", "1 0");
        b.fails("true 0 idiv", 4, "idiv", "true 0");
        b.fails("(a) add", 3, "add", "(a)");
        b.fails("1 null add", 4, "add", "1 null");
        b.fails("null 1 mul", 4, "mul", "null 1");
        b.fails("true neg", 4, "neg", "true");
        b.fails("abs", 3, "abs", "");
    }

    private static void comparisons(Bench b) {
        b.leaves("1 1 eq 1 2 eq 1 true eq null null eq mark mark eq", "true false false true true");
        b.leaves("/a /a cvx eq /a (a) eq (a) /a cvx eq (a) (a) eq (a) (ab) eq", "true true true true false");
        b.leaves("[1] [1] eq [1] dup eq [1 2] dup 0 1 getinterval eq", "false true false");
        b.leaves("[1 2] dup 0 2 getinterval cvx eq", "true");
        b.leaves("{} {} eq", "true");
        b.leaves("1 dict dup eq 1 dict 1 dict eq", "true false");
        b.leaves("/add load dup eq /add load /sub load eq /add load /add eq", "true false false");
        b.leaves("1 1 ne 1 (1) ne", "false true");
        b.leaves("1 2 lt 2 2 lt 2 2 le 3 2 le 3 2 gt 2 2 gt 2 2 ge 1 2 ge", "true false true false true false true false");
        b.leaves("-2147483648 2147483647 lt", "true");
        b.leaves("(a) (ab) lt (b) (ab) lt (\377) (a) gt () () ge () (a) ge", "true false true true false");
        b.fails("1 (a) lt", 4, "lt", "1 (a)");
        b.fails("/a /b lt", 4, "lt", "/a /b");
        b.fails("true false ge", 4, "ge", "true false");
        b.fails("1 eq", 3, "eq", "1");
    }

    private static void truths(Bench b) {
        b.leaves("12 10 and 12 10 or 12 10 xor 0 not", "8 14 6 -1");
        b.leaves("true false and true false or true true xor true not false not", "false true false false true");
        b.leaves("true false null", "true false null");
        b.fails("1 true and", 4, "and", "1 true");
        b.fails("true 1 xor", 4, "xor", "true 1");
        b.fails("null not", 4, "not", "null");
        b.fails("true or", 3, "or", "true");
    }
}

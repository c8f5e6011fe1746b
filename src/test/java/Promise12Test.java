/** Promise 12: out tells the bytes that = and print wrote. */
public final class Promise12Test {
    public static void main(String[] args) {
        Bench b = new Bench("Promise12Test");
        b.refusesIndex("out(0) at first", () -> b.machine.out(0));
        b.run("0 = -7 = 2147483647 = -2147483648 = 100 = true = false = /nm = /nm cvx = (st\\)r) = /add load =");
        b.due("texts", b.out(), "0\n-7\n2147483647\n-2147483648\n100\ntrue\nfalse\nnm\nnm\nst)r\nadd\n");
        b.machine.reset();
        b.run("null = mark = [1] = {2} = currentdict = (a) print (\377) print () print");
        String none = "--nostringval--\n";
        b.due("others", b.out(), none + none + none + none + none + "a\377");
        b.due("operands", b.machine.count(0), 0);
        int[] wrong = {-1, 82, 1000, Integer.MIN_VALUE, Integer.MAX_VALUE};
        for (int i : wrong) {
            b.refusesIndex("out(" + i + ")", () -> b.machine.out(i));
        }
        b.due("the last byte", b.machine.out(81), 255);
        errors(b);
        full(b);
        b.end();
    }

    private static void errors(Bench b) {
        b.fails("=", 3, "=", "");
        b.fails("print", 3, "print", "");
        b.fails("5 print", 4, "print", "5");
        b.fails("/a print", 4, "print", "/a");
    }

    private static void full(Bench b) {
        b.fresh();
        b.due("995 bytes", b.run("/s 199 string def 5 {s print} repeat"), 0);
        b.due("seven more", b.run("123456 ="), 2);
        b.due("its error", b.error(), "2 =");
        b.due("nothing of it was written", b.machine.count(2), 995);
        b.due("it stays", b.operands(), "123456");
        b.due("print of six", b.run("(abcdef) print"), 2);
        b.due("its error", b.error(), "2 print");
        b.due("five more", b.run("pop pop 1234 ="), 0);
        b.due("bytes", b.machine.count(2), 1000);
        b.due("print of none", b.run("() print"), 0);
        b.due("= of none", b.run("() ="), 2);
        b.due("what is written stays", b.machine.out(995), '1');
    }
}

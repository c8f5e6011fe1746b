/** Promise 12: out tells the bytes that = and print wrote. */
public final class Promise12Test {
    public static void main(String[] args) {
        Bench b = new Bench("Promise12Test");
        b.refusesIndex("out(0) at first", () -> b.machine.out(0));
        b.run("0 = -7 = 2147483647 = -2147483648 = 100 = true = false = /nm = /nm cvx = (st\\)r) = /add load =");
        b.due("texts", b.out(), "0\n-7\n2147483647\n-2147483648\n100\ntrue\nfalse\nnm\nnm\nst)r\nadd\n");
        b.machine.reset();
        b.run("null = mark = [1] = {2} = currentdict = (a) print (\377) print () print");
        String none = "--nostringval--\n";
        b.due("others", b.out(), none + none + none + none + none + "a\377");
        b.due("operands", b.machine.count(0), 0);
        int[] wrong = {-1, 82, 1000, Integer.MIN_VALUE, Integer.MAX_VALUE};
        for (int i : wrong) {
            b.refusesIndex("out(" + i + ")", () -> b.machine.out(i));
        }
        b.due("the last byte", b.machine.out(81), 255);
        errors(b);
        full(b);
        edges(b);
        b.end();
    }

    private static void errors(Bench b) {
        b.fails("=", 3, "=", "");
        b.fails("print", 3, "print", "");
        b.fails("5 print", 4, "print", "5");
        b.fails("/a print", 4, "print", "/a");
    }

    private static void edges(Bench b) {
        b.fresh();
        b.refusesIndex("out(0)", () -> b.machine.out(0));
        b.run("() print");
        b.refusesIndex("out(0) behind nothing printed", () -> b.machine.out(0));
        b.run("() =");
        b.due("out(0)", b.machine.out(0), 10);
        b.refusesIndex("out(1)", () -> b.machine.out(1));
        b.run("/s 200 string def s 0 128 put s 199 255 put 4 {s print} repeat s 0 199 getinterval print");
        b.due("bytes", b.machine.count(2), 1000);
        b.due("out(1)", b.machine.out(1), 128);
        b.due("out(800)", b.machine.out(800), 255);
        b.due("out(801)", b.machine.out(801), 128);
        b.due("out(999)", b.machine.out(999), 0);
        String before = b.all();
        b.refusesIndex("out(1000)", () -> b.machine.out(1000));
        b.refusesIndex("out(-1)", () -> b.machine.out(-1));
        b.refusesIndex("out(min)", () -> b.machine.out(Integer.MIN_VALUE));
        b.refusesIndex("out(max)", () -> b.machine.out(Integer.MAX_VALUE));
        b.due("a call that throws changes nothing", b.all(), before);
        // What is written is no part of the string any more.
        b.fresh();
        b.run("(ab) dup print 0 99 put");
        b.due("OUT", b.out(), "ab");
    }

    private static void full(Bench b) {
        b.fresh();
        b.due("995 bytes", b.run("/s 199 string def 5 {s print} repeat"), 0);
        b.due("seven more", b.run("123456 ="), 2);
        b.due("its error", b.error(), "2 =");
        b.due("nothing of it was written", b.machine.count(2), 995);
        b.due("it stays", b.operands(), "123456");
        b.due("print of six", b.run("(abcdef) print"), 2);
        b.due("its error", b.error(), "2 print");
        b.due("five more", b.run("pop pop 1234 ="), 0);
        b.due("bytes", b.machine.count(2), 1000);
        b.due("print of none", b.run("() print"), 0);
        b.due("= of none", b.run("() ="), 2);
        b.due("what is written stays", b.machine.out(995), '1');
    }
}

/** Promise 2: type puts bytes behind the tape, the lowest first, or refuses them all. */
public final class Promise02Test {
    public static void main(String[] args) {
        Bench b = new Bench("Promise02Test");
        order(b);
        refused(b);
        full(b);
        atTheEnd(b);
        whole(b);
        b.end();
    }

    private static void order(Bench b) {
        for (int n = 1; n <= 8; n++) {
            b.fresh();
            b.due("type of " + n, b.machine.type(0x3837363534333231L, n) ? 1 : 0, 1);
            b.machine.run(10);
            b.due("the number of " + n + " bytes", b.machine.at(0, 1), Integer.parseInt("12345678".substring(0, n)));
        }
        b.fresh();
        b.machine.type('1', 1);
        b.machine.type('2', 1);
        b.machine.type('3' | ' ' << 8 | '4' << 16, 3);
        b.machine.run(10);
        b.due("pieces go behind each other", b.operands(), "123 4");
        b.fresh();
        b.machine.type(0xFFFFFFFFFFFFFF35L, 1);
        b.machine.run(10);
        b.due("what is above the n lowest bytes is nothing", b.operands(), "5");
        b.fresh();
        b.machine.type(0xFF20202020202028L, 8);
        b.machine.type(')', 1);
        b.machine.run(10);
        b.due("a byte 255", b.machine.octet(b.machine.count(6) - 1), 255);
    }

    private static void refused(Bench b) {
        b.fresh();
        b.machine.type('7', 1);
        int[] wrong = {0, -1, 9, 100, Integer.MIN_VALUE, Integer.MAX_VALUE};
        for (int n : wrong) {
            b.due("type of " + n, b.machine.type(0x3131313131313131L, n) ? 1 : 0, 0);
        }
        b.machine.run(10);
        b.due("nothing was typed", b.operands(), "7");
    }

    /** "False, changing nothing, when n is not 1 .. 8, or there would be more than 300": each n at each of the last places. */
    private static void atTheEnd(Bench b) {
        for (int typed = 291; typed <= 300; typed++) {
            for (int n = -1; n <= 9; n++) {
                b.fresh();
                b.due("typed", b.type(" ".repeat(typed - 1) + "7") ? 1 : 0, 1);
                boolean fits = n >= 1 && n <= 8 && typed + n <= 300;
                String what = "type of " + n + " behind " + typed;
                b.due(what, b.machine.type(0x3131313131313131L, n) ? 1 : 0, fits ? 1 : 0);
                int room = 300 - typed - (fits ? n : 0);
                b.due(what + " leaves so much room", b.type(" ".repeat(room)) ? 1 : 0, 1);
                b.due(what + " leaves no more room", b.machine.type(' ', 1) ? 1 : 0, 0);
                b.due(what + " run", b.machine.run(2), 0);
                b.due(what + " operands", b.operands(), fits ? "7" + "1".repeat(n) : "7");
            }
        }
    }

    /** All 300 bytes are there, each with its 8 bits. */
    private static void whole(Bench b) {
        StringBuilder bytes = new StringBuilder();
        for (int i = 0; i < 298; i++) {
            char c = (char) (255 - i % 256);
            bytes.append(c == '(' || c == ')' || c == '\\' ? 'x' : c);
        }
        b.leaves("(" + bytes + ")", "(" + bytes + ")");
        b.fresh();
        b.due("the sign's byte", b.machine.type(0x8000000000000028L, 8) ? 1 : 0, 1);
        b.due("the end", b.machine.type(0x7FFFFFFFFFFFFF29L, 1) ? 1 : 0, 1);
        b.due("run", b.machine.run(1), 0);
        b.due("the string", b.operands(), "(\0\0\0\0\0\0\200)");
        // A byte 0 is a byte of the tape as any other one.
        b.fresh();
        b.due("eight bytes 0", b.machine.type(0L, 8) ? 1 : 0, 1);
        b.due("292 more", b.type("\0".repeat(292)) ? 1 : 0, 1);
        b.due("it is full", b.machine.type(0L, 1) ? 1 : 0, 0);
    }

    private static void full(Bench b) {
        b.fresh();
        for (int i = 0; i < 37; i++) {
            b.due("the first 296", b.machine.type(0x2020202020202020L, 8) ? 1 : 0, 1);
        }
        b.due("300 and one", b.machine.type(0x2039383736L, 5) ? 1 : 0, 0);
        b.due("300", b.machine.type(0x39383736L, 4) ? 1 : 0, 1);
        b.due("one more", b.machine.type(0x30, 1) ? 1 : 0, 0);
        b.due("run", b.machine.run(1), 0);
        b.due("the last four", b.operands(), "6789");
        b.due("the tape was taken", b.machine.type(0x30, 1) ? 1 : 0, 1);
    }
}

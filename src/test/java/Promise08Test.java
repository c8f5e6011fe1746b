/** Promise 8: octet tells the bytes of all strings' rows, one behind the other as they were made. */
public final class Promise08Test {
    public static void main(String[] args) {
        Bench b = new Bench("Promise08Test");
        b.refusesIndex("octet(0) at first", () -> b.machine.octet(0));
        b.run("(ab) 2 string (\377\200) dup 0 7 put {(z)}");
        int[] due = {'a', 'b', 0, 0, 7, 128, 'z'};
        b.due("bytes", b.machine.count(6), due.length);
        for (int i = 0; i < due.length; i++) {
            b.due("octet(" + i + ")", b.machine.octet(i), due[i]);
        }
        int[] places = {-1, 7, 600, Integer.MIN_VALUE, Integer.MAX_VALUE};
        for (int i : places) {
            b.refusesIndex("octet(" + i + ")", () -> b.machine.octet(i));
        }
        edges(b);
        b.end();
    }

    /** Rows stand one behind the other as they were made, up to 600; one without bytes takes no place. */
    private static void edges(Bench b) {
        b.fresh();
        b.run("() 0 string");
        b.refusesIndex("octet(0) behind empty rows", () -> b.machine.octet(0));
        b.run("clear 200 string 200 string 199 string (\377)");
        b.due("octet(599)", b.machine.octet(599), 255);
        b.due("octet(598)", b.machine.octet(598), 0);
        b.due("octet(0)", b.machine.octet(0), 0);
        String before = b.all();
        b.refusesIndex("octet(600)", () -> b.machine.octet(600));
        b.refusesIndex("octet(-1)", () -> b.machine.octet(-1));
        b.due("a call that throws changes nothing", b.all(), before);
        b.run("0 128 put");
        b.due("octet(599) behind a put", b.machine.octet(599), 128);
        // A part of a string is no row of its own.
        b.fresh();
        b.run("(abc) 1 1 getinterval");
        b.due("bytes", b.machine.count(6), 3);
        b.refusesIndex("octet(3)", () -> b.machine.octet(3));
    }
}

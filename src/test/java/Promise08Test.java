/** Promise 8: octet tells the bytes of all strings' rows, one behind the other as they were made. */
public final class Promise08Test {
    public static void main(String[] args) {
        Bench b = new Bench("Promise08Test");
        b.refusesIndex("octet(0) at first", () -> b.machine.octet(0));
        b.run("(ab) 2 string (\377\200) dup 0 7 put {(z)}");
        int[] due = {'a', 'b', 0, 0, 7, 128, 'z'};
        b.due("bytes", b.machine.count(6), due.length);
        for (int i = 0; i < due.length; i++) {
            b.due("octet(" + i + ")", b.machine.octet(i), due[i]);
        }
        int[] places = {-1, 7, 600, Integer.MIN_VALUE, Integer.MAX_VALUE};
        for (int i : places) {
            b.refusesIndex("octet(" + i + ")", () -> b.machine.octet(i));
        }
        b.end();
    }
}

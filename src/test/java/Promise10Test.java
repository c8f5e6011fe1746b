/** Promise 10: name tells a name's bytes, and how many it has. */
public final class Promise10Test {
    public static void main(String[] args) {
        Bench b = new Bench("Promise10Test");
        String[] types = "null integer boolean mark name array string dict operator".split(" ");
        for (int i = 0; i < types.length; i++) {
            b.due("name " + (74 + i), b.nameText(74 + i), types[i] + "type");
        }
        b.run("/sixteen-bytes-ab / /x {y x add} (from a string) where pop");
        String[] met = {"sixteen-bytes-ab", "", "x", "y", "from a string"};
        b.due("names", b.machine.count(4), 83 + met.length);
        for (int i = 0; i < met.length; i++) {
            b.due("name " + (83 + i), b.nameText(83 + i), met[i]);
            b.due("length of " + (83 + i), b.machine.name(83 + i, -1), met[i].length());
        }
        b.run("(\0\377) where pop");
        b.due("a byte 0", b.machine.name(88, 0), 0);
        b.due("a byte 255", b.machine.name(88, 1), 255);
        b.due("a name with a byte 0 is another one", b.machine.name(88, -1), 2);
        wrong(b);
        b.end();
    }

    private static void wrong(Bench b) {
        int[] numbers = {-1, 89, 160, Integer.MIN_VALUE, Integer.MAX_VALUE};
        for (int n : numbers) {
            b.refusesIndex("name(" + n + ", -1)", () -> b.machine.name(n, -1));
        }
        int[] places = {-2, 3, 16, Integer.MIN_VALUE, Integer.MAX_VALUE};
        for (int i : places) {
            b.refusesIndex("name(0, " + i + ")", () -> b.machine.name(0, i));
        }
        b.refusesIndex("name(84, 0) of the empty name", () -> b.machine.name(84, 0));
    }
}

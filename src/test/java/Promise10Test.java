/** Promise 10: name tells a name's bytes, and how many it has. */
public final class Promise10Test {
    public static void main(String[] args) {
        Bench b = new Bench("Promise10Test");
        String[] types = "null integer boolean mark name array string dict operator".split(" ");
        for (int i = 0; i < types.length; i++) {
            b.due("name " + (74 + i), b.nameText(74 + i), types[i] + "type");
        }
        b.run("/sixteen-bytes-ab / /x {y x add} (from a string) where pop");
        String[] met = {"sixteen-bytes-ab", "", "x", "y", "from a string"};
        b.due("names", b.machine.count(4), 83 + met.length);
        for (int i = 0; i < met.length; i++) {
            b.due("name " + (83 + i), b.nameText(83 + i), met[i]);
            b.due("length of " + (83 + i), b.machine.name(83 + i, -1), met[i].length());
        }
        b.run("(\0\377) where pop");
        b.due("a byte 0", b.machine.name(88, 0), 0);
        b.due("a byte 255", b.machine.name(88, 1), 255);
        b.due("a name with a byte 0 is another one", b.machine.name(88, -1), 2);
        wrong(b);
        edges(b);
        b.end();
    }

    private static void edges(Bench b) {
        b.fresh();
        b.refusesIndex("name(83, -1) at first", () -> b.machine.name(83, -1));
        for (int n = 83; n < 159; n++) {
            b.endsHere("/n" + n + " pop");
        }
        b.refusesIndex("name(159, -1)", () -> b.machine.name(159, -1));
        b.endsHere("(\377bcdefghijklmno\0) where pop");
        b.due("length of the last", b.machine.name(159, -1), 16);
        b.due("its first byte", b.machine.name(159, 0), 255);
        b.due("its eighth byte", b.machine.name(159, 7), 'h');
        b.due("its ninth byte", b.machine.name(159, 8), 'i');
        b.due("its last byte", b.machine.name(159, 15), 0);
        String before = b.all();
        b.refusesIndex("name(159, 16)", () -> b.machine.name(159, 16));
        b.refusesIndex("name(159, -2)", () -> b.machine.name(159, -2));
        b.refusesIndex("name(160, -1)", () -> b.machine.name(160, -1));
        b.refusesIndex("name(-1, -1)", () -> b.machine.name(-1, -1));
        for (int n = 0; n < 160; n++) {
            int one = n;
            int length = b.nameText(n).length();
            b.refusesIndex("byte " + length + " of name " + n, () -> b.machine.name(one, length));
        }
        b.due("a call that throws changes nothing", b.all(), before);
        met(b);
    }

    /** "then others in the order in which they were met": each once, by whom ever. */
    private static void met(Bench b) {
        b.fresh();
        b.run("{b {c} /a} pop (d) where pop << (f) 1 (e) 2 >> pop /b /a (c) where");
        String[] names = {"b", "c", "a", "d", "f", "e"};
        b.due("names", b.machine.count(4), 83 + names.length);
        for (int i = 0; i < names.length; i++) {
            b.due("name " + (83 + i), b.nameText(83 + i), names[i]);
        }
    }

    private static void wrong(Bench b) {
        int[] numbers = {-1, 89, 160, Integer.MIN_VALUE, Integer.MAX_VALUE};
        for (int n : numbers) {
            b.refusesIndex("name(" + n + ", -1)", () -> b.machine.name(n, -1));
        }
        int[] places = {-2, 3, 16, Integer.MIN_VALUE, Integer.MAX_VALUE};
        for (int i : places) {
            b.refusesIndex("name(0, " + i + ")", () -> b.machine.name(0, i));
        }
        b.refusesIndex("name(84, 0) of the empty name", () -> b.machine.name(84, 0));
    }
}

/** The stacks of a page machine: programs in text are typed onto a tape and run in counted steps. */
public final class OperandStacks {
    private static final int SYNTAX_ERROR = 1;
    private static final int LIMIT_CHECK = 2;
    private static final int STACK_UNDERFLOW = 3;
    private static final int TYPE_CHECK = 4;
    private static final int UNDEFINED = 5;
    private static final int RANGE_CHECK = 6;
    private static final int UNDEFINED_RESULT = 7;
    private static final int UNMATCHED_MARK = 8;
    private static final int DICT_FULL = 9;
    private static final int DICT_STACK_UNDERFLOW = 10;
    private static final int DICT_STACK_OVERFLOW = 11;
    private static final int INVALID_EXIT = 12;
    private static final int STACK_OVERFLOW = 13;

    private static final int OPERATORS = 74;
    private static final int MOST_STEPS = 1000;
    // Stands far above the turns that any run can need; it only makes the loops' ends plain.
    private static final int FAR = 1000000;

    private final Names names;
    private final Storage storage;
    private final Dictionaries dictionaries;
    private final Operands operands;
    private final Reader reader;
    private final Machine machine;

    public OperandStacks() {
        names = new Names();
        storage = new Storage();
        dictionaries = new Dictionaries();
        operands = new Operands();
        reader = new Reader(names, storage);
        machine = new Machine(names, storage, dictionaries, operands, reader);
    }

    public boolean type(long w, int n) {
        return reader.append(w, n);
    }

    public int run(int steps) throws IllegalArgumentException {
        if (steps < 0 || steps > MOST_STEPS) {
            throw new IllegalArgumentException("steps are 0 .. 1000");
        }
        machine.begin(steps);
        for (int turn = 0; turn < FAR && machine.outcome == Machine.RUNNING; turn++) {
            machine.takeTurn();
        }
        reader.discard();
        return machine.outcome;
    }

    public void reset() {
        names.forget();
        storage.forget();
        dictionaries.forget();
        operands.forget();
        machine.forget();
    }

    public int count(int which) throws IllegalArgumentException {
        switch (which) {
            case 0: return operands.size;
            case 1: return dictionaries.depth;
            case 2: return storage.outUsed;
            case 3: return machine.stepsUsed;
            case 4: return names.met;
            case 5: return storage.cellsUsed;
            case 6: return storage.octetsUsed;
            case 7: return dictionaries.made;
            default: throw new IllegalArgumentException("no such count");
        }
    }

    public int at(int i, int what) throws IndexOutOfBoundsException, IllegalArgumentException {
        if (i < 0 || i >= operands.size) {
            throw new IndexOutOfBoundsException("no such operand");
        }
        if (what < 0 || what > 3) {
            throw new IllegalArgumentException("what is 0 .. 3");
        }
        return Value.part(operands.top(i), what);
    }

    public int value(int i, int what) throws IndexOutOfBoundsException, IllegalArgumentException {
        if (i < 0 || i >= storage.cellsUsed) {
            throw new IndexOutOfBoundsException("no such value of an array");
        }
        if (what < 0 || what > 3) {
            throw new IllegalArgumentException("what is 0 .. 3");
        }
        return Value.part(storage.cell(i), what);
    }

    public int octet(int i) throws IndexOutOfBoundsException {
        if (i < 0 || i >= storage.octetsUsed) {
            throw new IndexOutOfBoundsException("no such byte of a string");
        }
        return storage.octetAt(i);
    }

    public int dictionary(int d, int k, int what) throws IndexOutOfBoundsException, IllegalArgumentException {
        if (d < 0 || d >= dictionaries.made || k < -2 || k >= dictionaries.pairsOf(d)) {
            throw new IndexOutOfBoundsException("no such dictionary or pair");
        }
        if (k == -1) {
            return dictionaries.roomOf(d);
        }
        if (k == -2) {
            return dictionaries.pairsOf(d);
        }
        if (what < 0 || what > 3) {
            throw new IllegalArgumentException("what is 0 .. 3");
        }
        return Value.part(what < 2 ? dictionaries.keyAt(d, k) : dictionaries.valueAt(d, k), what & 1);
    }

    public int name(int n, int i) throws IndexOutOfBoundsException {
        if (n < 0 || n >= names.met || i < -1 || i >= names.lengthOf(n)) {
            throw new IndexOutOfBoundsException("no such name or byte");
        }
        return i == -1 ? names.lengthOf(n) : names.octetOf(n, i);
    }

    public int error(int what) throws IllegalArgumentException {
        if (what != 0 && what != 1) {
            throw new IllegalArgumentException("what is 0 or 1");
        }
        return what == 0 ? machine.errorNumber : machine.errorName;
    }

    public int out(int i) throws IndexOutOfBoundsException {
        if (i < 0 || i >= storage.outUsed) {
            throw new IndexOutOfBoundsException("no such byte of OUT");
        }
        return storage.outAt(i);
    }

    /** A value is packed into a long, so that no step of a run makes an object. */
    private static final class Value {
        static final int NUMBER = 1;
        static final int BOOLEAN = 2;
        static final int MARK = 3;
        static final int NAME = 4;
        static final int ARRAY = 5;
        static final int STRING = 6;
        static final int DICTIONARY = 7;
        static final int OPERATOR = 8;

        static final int LENGTH_SHIFT = 32;
        static final int KIND_SHIFT = 49;
        static final long NUMBER_MASK = 0xFFFFFFFFL;
        static final long EXECUTABLE = 1L << 48;
        // Its kind is 15, which no value has.
        static final long NONE = -1L;
        static final long NOTHING = 0L;
        static final long A_MARK = (long) MARK << KIND_SHIFT;
        static final long FALSE = (long) BOOLEAN << KIND_SHIFT;
        static final long TRUE = FALSE | 1L;
        static final long FIRST_NAME = (long) NAME << KIND_SHIFT;

        static long number(int number) {
            return (long) NUMBER << KIND_SHIFT | number & NUMBER_MASK;
        }

        static long truth(boolean truth) {
            return truth ? TRUE : FALSE;
        }

        static long literalName(int name) {
            return FIRST_NAME | name & NUMBER_MASK;
        }

        static long executableName(int name) {
            return FIRST_NAME | EXECUTABLE | name & NUMBER_MASK;
        }

        static long operator(int operator) {
            return (long) OPERATOR << KIND_SHIFT | EXECUTABLE | operator & NUMBER_MASK;
        }

        static long dictionaryOf(int dictionary) {
            return (long) DICTIONARY << KIND_SHIFT | dictionary & NUMBER_MASK;
        }

        static long array(int place, int length) {
            return (long) ARRAY << KIND_SHIFT | (long) length << LENGTH_SHIFT | place & NUMBER_MASK;
        }

        static long string(int place, int length) {
            return (long) STRING << KIND_SHIFT | (long) length << LENGTH_SHIFT | place & NUMBER_MASK;
        }

        static int kind(long value) {
            return (int) (value >>> KIND_SHIFT) & 15;
        }

        static int length(long value) {
            return (int) (value >>> LENGTH_SHIFT) & 0xFFFF;
        }

        static boolean isExecutable(long value) {
            return (value & EXECUTABLE) != 0L;
        }

        static boolean isProcedure(long value) {
            return (value & EXECUTABLE) != 0L && ((value >>> KIND_SHIFT) & 15L) == ARRAY;
        }

        static boolean isExecutableName(long value) {
            return (value & EXECUTABLE) != 0L && ((value >>> KIND_SHIFT) & 15L) == NAME;
        }

        /** A part of an array or string; it is executable as the whole is. */
        static long partOf(long row, int first, int length) {
            long rest = row & ~(NUMBER_MASK | 0xFFFFL << LENGTH_SHIFT);
            return rest | (long) length << LENGTH_SHIFT | ((int) row + first) & NUMBER_MASK;
        }

        static int part(long value, int what) {
            switch (what) {
                case 0: return kind(value);
                case 1: return (int) value;
                case 2: return isExecutable(value) ? 1 : 0;
                default: return length(value);
            }
        }
    }

    /** All names that were met; the operators' come first, so that their numbers are the operators'. */
    private static final class Names {
        static final int MOST = 160;
        static final int LONGEST = 16;
        static final int FIXED = 83;
        static final int FIRST_TYPE = 74;
        static final String STACK_NAMES = "pop exch dup copy index roll clear count mark [ << cleartomark counttomark ";
        static final String NUMBER_NAMES = "add sub mul idiv mod neg abs eq ne lt le gt ge and or xor not ";
        static final String ROW_NAMES = "true false null array string length get put getinterval putinterval aload astore ";
        static final String PAIR_NAMES = "] >> dict begin end def load store known where undef currentdict countdictstack ";
        static final String CONTROL_NAMES = "maxlength exec if ifelse for repeat loop forall exit stop stopped quit ";
        static final String OTHER_NAMES = "bind cvx cvlit xcheck type = print nulltype integertype booleantype ";
        static final String TYPE_NAMES = "marktype nametype arraytype stringtype dicttype operatortype ";

        // A name's sixteen bytes in two longs: names are compared without a loop over their bytes.
        private final long[] lows = new long[MOST];
        private final long[] highs = new long[MOST];
        private final int[] lengths = new int[MOST];
        int met;
        private long draftLow;
        private long draftHigh;
        private int draftLength;

        Names() {
            met = 0;
            meetAll(STACK_NAMES);
            meetAll(NUMBER_NAMES);
            meetAll(ROW_NAMES);
            meetAll(PAIR_NAMES);
            meetAll(CONTROL_NAMES);
            meetAll(OTHER_NAMES);
            meetAll(TYPE_NAMES);
        }

        private void meetAll(String words) {
            startDraft();
            for (int i = 0; i < words.length(); i++) {
                char c = words.charAt(i);
                if (c == ' ') {
                    meetDraft();
                    startDraft();
                } else {
                    addToDraft(c);
                }
            }
        }

        void forget() {
            met = FIXED;
        }

        void startDraft() {
            draftLow = 0L;
            draftHigh = 0L;
            draftLength = 0;
        }

        void addToDraft(int octet) {
            long bits = octet & 255L;
            if (draftLength < 8) {
                draftLow |= bits << 8 * draftLength;
            } else if (draftLength < LONGEST) {
                draftHigh |= bits << 8 * (draftLength - 8);
            }
            draftLength++;
        }

        /** The number of the name of the drafted bytes, or -1 when it is too long or one too many. */
        int meetDraft() {
            if (draftLength > LONGEST) {
                return -1;
            }
            for (int n = 0; n < met && n < MOST; n++) {
                if (lows[n] == draftLow && highs[n] == draftHigh && lengths[n] == draftLength) {
                    return n;
                }
            }
            if (met < 0 || met >= MOST) {
                return -1;
            }
            lows[met] = draftLow;
            highs[met] = draftHigh;
            lengths[met] = draftLength;
            met++;
            return met - 1;
        }

        int lengthOf(int name) {
            return name >= 0 && name < MOST ? lengths[name] : 0;
        }

        int octetOf(int name, int i) {
            if (name < 0 || name >= MOST || i < 0 || i >= LONGEST) {
                return 0;
            }
            long half = i < 8 ? lows[name] : highs[name];
            return (int) (half >>> 8 * (i & 7)) & 255;
        }
    }

    /** The rows of all arrays and of all strings, and OUT. */
    private static final class Storage {
        static final int MOST_CELLS = 600;
        static final int MOST_OCTETS = 600;
        static final int MOST_OUT = 1000;

        private final long[] cells = new long[MOST_CELLS];
        private final byte[] octets = new byte[MOST_OCTETS];
        private final byte[] out = new byte[MOST_OUT];
        int cellsUsed;
        int octetsUsed;
        int outUsed;

        void forget() {
            cellsUsed = 0;
            octetsUsed = 0;
            outUsed = 0;
        }

        /** The place of a new row of nulls, or -1 when there is no room. */
        int makeArray(int length) {
            if (length < 0 || length > MOST_CELLS - cellsUsed) {
                return -1;
            }
            int place = cellsUsed;
            cellsUsed += length;
            for (int i = place; i < cellsUsed; i++) {
                setCell(i, Value.NOTHING);
            }
            return place;
        }

        /** The place of a new row of bytes 0, or -1 when there is no room. */
        int makeString(int length) {
            if (length < 0 || length > MOST_OCTETS - octetsUsed) {
                return -1;
            }
            int place = octetsUsed;
            octetsUsed += length;
            for (int i = place; i < octetsUsed; i++) {
                setOctet(i, 0);
            }
            return place;
        }

        long cell(int place) {
            return place >= 0 && place < MOST_CELLS ? cells[place] : Value.NOTHING;
        }

        void setCell(int place, long value) {
            if (place >= 0 && place < MOST_CELLS) {
                cells[place] = value;
            }
        }

        int octetAt(int place) {
            return place >= 0 && place < MOST_OCTETS ? octets[place] & 255 : 0;
        }

        void setOctet(int place, int octet) {
            if (place >= 0 && place < MOST_OCTETS) {
                octets[place] = (byte) octet;
            }
        }

        int outAt(int i) {
            return i >= 0 && i < MOST_OUT ? out[i] & 255 : 0;
        }

        /** False when OUT is full. */
        boolean write(int octet) {
            if (outUsed < 0 || outUsed >= MOST_OUT) {
                return false;
            }
            out[outUsed] = (byte) octet;
            outUsed++;
            return true;
        }
    }

    /** All dictionaries, their pairs in one pool, and the stack of those that are looked through. */
    private static final class Dictionaries {
        static final int MOST = 20;
        static final int DEEPEST = 10;
        static final int SYSTEM = 0;
        static final int USER_ROOM = 20;
        // The largest one that >> can make: 59 operands above a mark.
        static final int LARGEST_MADE = 29;
        static final int POOL = OPERATORS + USER_ROOM + (MOST - 2) * LARGEST_MADE;

        private final long[] keys = new long[POOL];
        private final long[] values = new long[POOL];
        private final int[] starts = new int[MOST];
        private final int[] rooms = new int[MOST];
        private final int[] pairs = new int[MOST];
        private final int[] stack = new int[DEEPEST];
        private int poolUsed;
        int made;
        int depth;

        Dictionaries() {
            for (int i = 0; i < OPERATORS; i++) {
                keys[i] = Value.literalName(i);
                values[i] = Value.operator(i);
            }
            forget();
        }

        void forget() {
            made = 0;
            poolUsed = 0;
            make(OPERATORS);
            make(USER_ROOM);
            pairs[SYSTEM] = OPERATORS;
            depth = 0;
            begin(0);
            begin(1);
        }

        /** The number of a new dictionary, or -1 when there is no room. */
        int make(int room) {
            if (made < 0 || made >= MOST || room < 0 || room > POOL - poolUsed) {
                return -1;
            }
            starts[made] = poolUsed;
            rooms[made] = room;
            pairs[made] = 0;
            poolUsed += room;
            made++;
            return made - 1;
        }

        boolean begin(int dictionary) {
            if (depth < 0 || depth >= DEEPEST) {
                return false;
            }
            stack[depth] = dictionary;
            depth++;
            return true;
        }

        boolean end() {
            if (depth <= 2) {
                return false;
            }
            depth--;
            return true;
        }

        int current() {
            return depth > 0 && depth <= DEEPEST ? stack[depth - 1] : SYSTEM;
        }

        int roomOf(int d) {
            return d >= 0 && d < MOST ? rooms[d] : 0;
        }

        int pairsOf(int d) {
            return d >= 0 && d < MOST ? pairs[d] : 0;
        }

        long keyAt(int d, int pair) {
            if (d < 0 || d >= MOST || pair < 0 || pair >= POOL - starts[d]) {
                return Value.NONE;
            }
            return keys[starts[d] + pair];
        }

        long valueAt(int d, int pair) {
            if (d < 0 || d >= MOST || pair < 0 || pair >= POOL - starts[d]) {
                return Value.NONE;
            }
            return values[starts[d] + pair];
        }

        /** Which pair of the dictionary has the key; -1 when none has. */
        int find(int d, long key) {
            if (d < 0 || d >= MOST) {
                return -1;
            }
            if (d == SYSTEM) {
                long operator = key - Value.FIRST_NAME;
                return operator >= 0L && operator < OPERATORS ? (int) operator : -1;
            }
            int start = starts[d];
            for (int i = 0; i < pairs[d] && start + i < POOL; i++) {
                if (keys[start + i] == key) {
                    return i;
                }
            }
            return -1;
        }

        /** The last one on the stack that has the key; -1 when none has. */
        int holder(long key) {
            for (int i = depth - 1; i >= 0 && i < DEEPEST; i--) {
                if (find(stack[i], key) >= 0) {
                    return stack[i];
                }
            }
            return -1;
        }

        /** The value that execution finds; NONE when there is none. */
        long lookUp(long key) {
            for (int i = depth - 1; i >= 0 && i < DEEPEST; i--) {
                int pair = find(stack[i], key);
                if (pair >= 0) {
                    return valueAt(stack[i], pair);
                }
            }
            return Value.NONE;
        }

        int put(int d, long key, long value) {
            if (d <= SYSTEM || d >= MOST) {
                return DICT_FULL;
            }
            int pair = find(d, key);
            if (pair < 0 && pairs[d] >= rooms[d]) {
                return DICT_FULL;
            }
            int spot = starts[d] + (pair < 0 ? pairs[d] : pair);
            if (spot < 0 || spot >= POOL) {
                return DICT_FULL;
            }
            keys[spot] = key;
            values[spot] = value;
            if (pair < 0) {
                pairs[d]++;
            }
            return 0;
        }

        int remove(int d, long key) {
            if (d <= SYSTEM || d >= MOST) {
                return DICT_FULL;
            }
            int pair = find(d, key);
            if (pair < 0) {
                return 0;
            }
            int last = starts[d] + pairs[d] - 1;
            for (int i = starts[d] + pair; i >= 0 && i < last && i + 1 < POOL; i++) {
                keys[i] = keys[i + 1];
                values[i] = values[i + 1];
            }
            pairs[d]--;
            return 0;
        }
    }

    /** The stack of operands. */
    private static final class Operands {
        static final int MOST = 60;

        private final long[] values = new long[MOST];
        private final long[] turned = new long[MOST];
        int size;

        void forget() {
            size = 0;
        }

        /** Operand i from the top; NONE when there is none. */
        long top(int i) {
            return i >= 0 && i < size && size <= MOST ? values[size - 1 - i] : Value.NONE;
        }

        int numberAt(int i) {
            return (int) top(i);
        }

        boolean hasRoom(int more) {
            return more <= MOST - size;
        }

        void drop(int n) {
            size = n >= 0 && n <= size ? size - n : 0;
        }

        boolean push(long value) {
            if (size < 0 || size >= MOST) {
                return false;
            }
            values[size] = value;
            size++;
            return true;
        }

        /** An operator's answer in place of what it takes; the overflow is looked at before anything goes. */
        int answer(int taken, long value) {
            int spot = size - taken;
            if (spot >= MOST) {
                return STACK_OVERFLOW;
            }
            if (taken < 0 || spot < 0) {
                return STACK_UNDERFLOW;
            }
            values[spot] = value;
            size = spot + 1;
            return 0;
        }

        /** How many are above the topmost mark; -1 when there is none. */
        int aboveMark() {
            for (int i = size - 1; i >= 0 && i < MOST; i--) {
                if (values[i] == Value.A_MARK) {
                    return size - 1 - i;
                }
            }
            return -1;
        }

        void swap() {
            if (size >= 2 && size <= MOST) {
                long upper = values[size - 1];
                values[size - 1] = values[size - 2];
                values[size - 2] = upper;
            }
        }

        void copyTop(int n) {
            int first = size - n;
            for (int i = 0; i < n && first >= 0 && size < MOST; i++) {
                values[size] = values[first + i];
                size++;
            }
        }

        void roll(int n, int places) {
            if (n <= 0 || n > size || size > MOST) {
                return;
            }
            int first = size - n;
            int shift = Math.floorMod(places, n);
            for (int i = 0; i < n; i++) {
                int spot = i + shift < n ? i + shift : i + shift - n;
                turned[spot] = values[first + i];
            }
            for (int i = 0; i < n; i++) {
                values[first + i] = turned[i];
            }
        }
    }

    /** The stack EXECUTION; the program is its first one, and stays there till the run ends. */
    private static final class Execution {
        static final int MOST = 24;
        static final int PROGRAM = 0;
        static final int PROCEDURE = 1;
        static final int STOPPED = 2;
        static final int FOR = 3;
        static final int REPEAT = 4;
        static final int LOOP = 5;
        static final int FORALL = 6;

        private final int[] sorts = new int[MOST];
        private final long[] bodies = new long[MOST];
        // The next value's index, the next number, or the rounds that are left.
        private final long[] nexts = new long[MOST];
        private final long[] lasts = new long[MOST];
        private final long[] strides = new long[MOST];
        private final long[] subjects = new long[MOST];
        // The keys that a forall's dictionary had at first: it may change in the rounds.
        private final long[] keys = new long[MOST * OPERATORS];
        private int size;

        void begin() {
            size = 1;
            sorts[0] = PROGRAM;
        }

        boolean hasRoom(int more) {
            return more <= MOST - size;
        }

        private int topFrame() {
            return size > 0 && size <= MOST ? size - 1 : 0;
        }

        int sort() {
            return sorts[topFrame()];
        }

        long body() {
            return bodies[topFrame()];
        }

        long next() {
            return nexts[topFrame()];
        }

        void setNext(long next) {
            nexts[topFrame()] = next;
        }

        long last() {
            return lasts[topFrame()];
        }

        long stride() {
            return strides[topFrame()];
        }

        long subject() {
            return subjects[topFrame()];
        }

        void leave() {
            if (size > 1) {
                size--;
            }
        }

        boolean enter(int sort, long body) {
            if (size < 0 || size >= MOST) {
                return false;
            }
            sorts[size] = sort;
            bodies[size] = body;
            nexts[size] = 0L;
            lasts[size] = 0L;
            strides[size] = 0L;
            subjects[size] = Value.NONE;
            size++;
            return true;
        }

        void setBounds(long first, long stride, long last) {
            int frame = topFrame();
            nexts[frame] = first;
            strides[frame] = stride;
            lasts[frame] = last;
        }

        void setSubject(long subject, int rounds) {
            subjects[topFrame()] = subject;
            lasts[topFrame()] = rounds;
        }

        void keepKey(int i, long key) {
            if (i >= 0 && i < OPERATORS) {
                keys[topFrame() * OPERATORS + i] = key;
            }
        }

        long keptKey(long i) {
            return i >= 0L && i < OPERATORS ? keys[topFrame() * OPERATORS + (int) i] : Value.NONE;
        }

        /** Takes all off up to the latest STOPPED, with it; false, changing nothing, when there is none. */
        boolean leaveStopped() {
            for (int i = size - 1; i > 0 && i < MOST; i--) {
                if (sorts[i] == STOPPED) {
                    size = i;
                    return true;
                }
            }
            return false;
        }

        /** Takes all off up to the innermost loop, with it; false when a STOPPED comes first, or none is there. */
        boolean leaveLoop() {
            for (int i = size - 1; i > 0 && i < MOST; i--) {
                if (sorts[i] == STOPPED) {
                    return false;
                }
                if (sorts[i] >= FOR) {
                    size = i;
                    return true;
                }
            }
            return false;
        }
    }

    /** The tape, and the tokens on it. */
    private static final class Reader {
        static final int LONGEST = 300;
        static final int DEEPEST = 8;

        private final Names names;
        private final Storage storage;
        private final byte[] tape = new byte[LONGEST];
        private final byte[] text = new byte[LONGEST];
        private int typed;
        private int position;
        // The values of procedures that are still open, the innermost one's last.
        private final long[] parts = new long[LONGEST];
        private int partCount;
        private final int[] firstParts = new int[DEEPEST];
        private int openCount;
        private long token;
        private int parsed;

        Reader(Names names, Storage storage) {
            this.names = names;
            this.storage = storage;
        }

        boolean append(long bytes, int n) {
            if (n < 1 || n > 8 || n > LONGEST - typed) {
                return false;
            }
            for (int i = 0; i < n && typed < LONGEST; i++) {
                tape[typed] = (byte) (bytes >>> 8 * i);
                typed++;
            }
            return true;
        }

        void discard() {
            typed = 0;
            position = 0;
        }

        long lastToken() {
            return token;
        }

        private int byteAt(int i) {
            return i >= 0 && i < typed && i < LONGEST ? tape[i] & 255 : -1;
        }

        /** Goes over what parts tokens; false at the tape's end. */
        boolean findToken() {
            boolean comment = false;
            for (; position < typed; position++) {
                int c = byteAt(position);
                if (c == '%') {
                    comment = true;
                } else if (c == 10) {
                    comment = false;
                } else if (!comment && c > 32) {
                    return true;
                }
            }
            return false;
        }

        /** Reads one token, a procedure with all in it; answers an error's number, or 0. */
        int readToken() {
            partCount = 0;
            openCount = 0;
            int code = 0;
            for (int piece = 0; piece <= LONGEST && findToken(); piece++) {
                int c = byteAt(position);
                position++;
                switch (c) {
                    case '{':
                        code = openProcedure();
                        break;
                    case '}':
                        code = closeProcedure();
                        break;
                    case '(':
                        code = readString();
                        break;
                    case '/':
                        code = readName(position, true);
                        break;
                    case '[':
                        code = keep(Value.executableName(9));
                        break;
                    case ']':
                        code = keep(Value.executableName(42));
                        break;
                    case '<':
                        code = readPair('<', 10);
                        break;
                    case '>':
                        code = readPair('>', 43);
                        break;
                    default:
                        code = isRegular(c) ? readRegular(position - 1) : SYNTAX_ERROR;
                        break;
                }
                if (code != 0 || openCount == 0) {
                    return code;
                }
            }
            return SYNTAX_ERROR;
        }

        private int keep(long value) {
            token = value;
            if (openCount > 0 && partCount >= 0 && partCount < LONGEST) {
                parts[partCount] = value;
                partCount++;
            }
            return 0;
        }

        private int readPair(int second, int name) {
            if (byteAt(position) != second) {
                return SYNTAX_ERROR;
            }
            position++;
            return keep(Value.executableName(name));
        }

        private int openProcedure() {
            if (openCount < 0 || openCount >= DEEPEST) {
                return LIMIT_CHECK;
            }
            firstParts[openCount] = partCount;
            openCount++;
            return 0;
        }

        private int closeProcedure() {
            if (openCount <= 0 || openCount > DEEPEST) {
                return SYNTAX_ERROR;
            }
            int first = firstParts[openCount - 1];
            int length = partCount - first;
            int place = storage.makeArray(length);
            if (place < 0) {
                return LIMIT_CHECK;
            }
            for (int i = 0; i < length && first + i < LONGEST; i++) {
                storage.setCell(place + i, parts[first + i]);
            }
            partCount = first;
            openCount--;
            return keep(Value.array(place, length) | Value.EXECUTABLE);
        }

        private int readString() {
            int length = 0;
            int nested = 1;
            for (; position < typed; position++) {
                int c = byteAt(position);
                if (c == '\\') {
                    position++;
                    c = byteAt(position);
                } else if (c == '(') {
                    nested++;
                } else if (c == ')') {
                    nested--;
                    if (nested == 0) {
                        position++;
                        return keepString(length);
                    }
                }
                if (length < LONGEST) {
                    text[length] = (byte) c;
                    length++;
                }
            }
            return SYNTAX_ERROR;
        }

        private int keepString(int length) {
            int place = storage.makeString(length);
            if (place < 0) {
                return LIMIT_CHECK;
            }
            for (int i = 0; i < length && i < LONGEST; i++) {
                storage.setOctet(place + i, text[i]);
            }
            return keep(Value.string(place, length));
        }

        private static boolean isRegular(int c) {
            if (c <= 32 || c > 126) {
                return false;
            }
            switch (c) {
                case '%': case '{': case '}': case '[': case ']':
                case '<': case '>': case '(': case ')': case '/':
                    return false;
                default:
                    return true;
            }
        }

        private int readName(int first, boolean literal) {
            names.startDraft();
            position = first;
            for (; position < typed && isRegular(byteAt(position)); position++) {
                names.addToDraft(byteAt(position));
            }
            int name = names.meetDraft();
            if (name < 0) {
                return LIMIT_CHECK;
            }
            return keep(literal ? Value.literalName(name) : Value.executableName(name));
        }

        private int readRegular(int first) {
            int end = first;
            for (; end < typed && isRegular(byteAt(end)); end++) {
                // only the end is looked for
            }
            if (isDecimal(first, end) || isToBase(first, end)) {
                position = end;
                return keep(Value.number(parsed));
            }
            return readName(first, false);
        }

        private boolean isDecimal(int first, int end) {
            int sign = byteAt(first);
            int start = sign == '+' || sign == '-' ? first + 1 : first;
            if (!readDigits(start, end, 10)) {
                return false;
            }
            if (sign == '-') {
                parsed = -parsed;
            }
            return true;
        }

        private boolean isToBase(int first, int end) {
            int hash = byteAt(first + 1) == '#' ? first + 1 : first + 2;
            if (hash >= end || byteAt(hash) != '#' || !readDigits(first, hash, 10)) {
                return false;
            }
            int base = parsed;
            return base >= 2 && base <= 36 && readDigits(hash + 1, end, base);
        }

        /** Whether there is at least one digit, and nothing else; parsed is then their number. */
        private boolean readDigits(int start, int end, int base) {
            parsed = 0;
            for (int i = start; i < end; i++) {
                int digit = digitOf(byteAt(i));
                if (digit < 0 || digit >= base) {
                    return false;
                }
                parsed = parsed * base + digit;
            }
            return start < end;
        }

        private static int digitOf(int c) {
            if (c >= '0' && c <= '9') {
                return c - '0';
            }
            if (c >= 'a' && c <= 'z') {
                return c - 'a' + 10;
            }
            return c >= 'A' && c <= 'Z' ? c - 'A' + 10 : -1;
        }
    }

    /** Runs programs: takes what comes next, executes it, and unwinds EXECUTION when something stops. */
    private static final class Machine {
        static final int RUNNING = -1;
        static final int ENDED = 0;
        static final int USED_UP = 1;
        static final int FAILED = 2;
        static final int STOPPED = 3;
        static final int QUITTED = 4;

        static final int LENGTH = 35;
        static final int PUT = 37;
        static final int EXEC = 56;
        static final int IF = 57;
        static final int IFELSE = 58;
        static final int FOR = 59;
        static final int REPEAT = 60;
        static final int LOOP = 61;
        static final int FORALL = 62;
        static final int EXIT = 63;
        static final int STOP = 64;
        static final int STOPPED_OPERATOR = 65;
        static final int QUIT = 66;

        // What each operator takes, a digit for each operand, the last one for the top: see TAKEN.
        private static final int[] SIGNATURES = {
            0x1, 0x11, 0x1, 0x2, 0x2, 0x22, 0, 0, 0, 0,
            0, 0, 0, 0x22, 0x22, 0x22, 0x22, 0x22, 0x2, 0x2,
            0x11, 0x11, 0xDD, 0xDD, 0xDD, 0xDD, 0xCC, 0xCC, 0xCC, 0xC,
            0, 0, 0, 0x2, 0x2, 0xB, 0xA1, 0xA11, 0x922, 0x929,
            0x5, 0x5, 0, 0, 0x2, 0x7, 0, 0x81, 0x8, 0x81,
            0x78, 0x8, 0x78, 0, 0, 0x7, 0x1, 0x34, 0x344, 0x2224,
            0x24, 0x4, 0xA4, 0, 0, 0x1, 0, 0x4, 0x1, 0x1,
            0x1, 0x1, 0x1, 0x6,
        };
        // The kinds that a digit stands for, a bit for each: 1 all, 2 a number, 3 true or false,
        // 4 an executable array, 5 an array, 6 a string, 7 a dictionary, 8 a key, 9 to D several kinds.
        private static final int[] TAKEN = {
            0, 0x1FF, 0x002, 0x004, 0x020, 0x020, 0x040, 0x080, 0x056, 0x060, 0x0E0, 0x0F0, 0x006, 0x042,
        };
        private static final int PROCEDURE_DIGIT = 4;

        private final Storage storage;
        private final Dictionaries dictionaries;
        private final Operands operands;
        private final Reader reader;
        private final Execution execution;
        private final PlainOperators plain;
        private final RowOperators rows;
        private final DictionaryOperators pairs;
        int stepsUsed;
        int errorNumber;
        int errorName;
        private int stepsAllowed;
        int outcome;
        // The value that is executed; NONE between two of them.
        private long current;
        private boolean stands;
        // What is noted when the current value finds no room.
        private int culprit;

        Machine(Names names, Storage storage, Dictionaries dictionaries, Operands operands, Reader reader) {
            this.storage = storage;
            this.dictionaries = dictionaries;
            this.operands = operands;
            this.reader = reader;
            execution = new Execution();
            plain = new PlainOperators(names, storage, operands);
            rows = new RowOperators(names, storage, dictionaries, operands);
            pairs = new DictionaryOperators(names, storage, dictionaries, operands);
            forget();
        }

        void forget() {
            stepsUsed = 0;
            errorNumber = 0;
            errorName = -1;
        }

        void begin(int steps) {
            stepsUsed = 0;
            stepsAllowed = steps;
            outcome = RUNNING;
            current = Value.NONE;
            execution.begin();
        }

        /** Executes the current value, or, when there is none, finds what comes next on EXECUTION. */
        void takeTurn() {
            if (current != Value.NONE) {
                int number = (int) current;
                if (Value.kind(current) == Value.OPERATOR) {
                    doOperator(number);
                } else if (Value.isExecutableName(current)) {
                    followName(number);
                } else {
                    putOrEnter();
                }
                return;
            }
            switch (execution.sort()) {
                case Execution.PROGRAM:
                    takeToken();
                    break;
                case Execution.PROCEDURE:
                    takeValue();
                    break;
                case Execution.STOPPED:
                    endStopped();
                    break;
                case Execution.FOR:
                    beginForRound();
                    break;
                case Execution.REPEAT:
                    beginRepeatRound();
                    break;
                case Execution.LOOP:
                    beginLoopRound();
                    break;
                default:
                    beginForallRound();
                    break;
            }
        }

        private boolean countStep() {
            if (stepsUsed >= stepsAllowed) {
                outcome = USED_UP;
                return false;
            }
            stepsUsed++;
            return true;
        }

        private void takeToken() {
            if (!reader.findToken()) {
                outcome = ENDED;
            } else if (countStep()) {
                int code = reader.readToken();
                if (code == 0) {
                    meet(reader.lastToken());
                } else {
                    fail(code, -1);
                }
            }
        }

        private void takeValue() {
            long body = execution.body();
            int next = (int) execution.next();
            if (next >= Value.length(body)) {
                execution.leave();
            } else if (countStep()) {
                execution.setNext(next + 1);
                // The last value is executed when its procedure has gone already.
                if (next + 1 == Value.length(body)) {
                    execution.leave();
                }
                meet(storage.cell((int) body + next));
            }
        }

        /** The value is executed next, and stands where it is met: a procedure is then put, not run. */
        private void meet(long value) {
            current = value;
            stands = true;
            culprit = -1;
        }

        /** The value is executed next on behalf of a name or an operator. */
        private void handOn(long value, int from) {
            current = value;
            stands = false;
            culprit = from;
        }

        private void endStopped() {
            if (operands.push(Value.FALSE)) {
                execution.leave();
            } else {
                fail(STACK_OVERFLOW, STOPPED_OPERATOR);
            }
        }

        private void beginForRound() {
            long next = execution.next();
            long stride = execution.stride();
            if (stride > 0L ? next > execution.last() : next < execution.last()) {
                execution.leave();
            } else if (countStep()) {
                execution.setNext(next + stride);
                putForRound(FOR, Value.number((int) next));
            }
        }

        private void beginRepeatRound() {
            long left = execution.next();
            if (left <= 0L) {
                execution.leave();
            } else if (countStep()) {
                execution.setNext(left - 1L);
                execution.enter(Execution.PROCEDURE, execution.body());
            }
        }

        private void beginLoopRound() {
            if (countStep()) {
                execution.enter(Execution.PROCEDURE, execution.body());
            }
        }

        private void beginForallRound() {
            long subject = execution.subject();
            long next = execution.next();
            if (Value.kind(subject) == Value.DICTIONARY) {
                beginPairRound((int) subject);
            } else if (next >= execution.last()) {
                execution.leave();
            } else if (countStep()) {
                execution.setNext(next + 1L);
                int place = (int) subject + (int) next;
                boolean array = Value.kind(subject) == Value.ARRAY;
                putForRound(FORALL, array ? storage.cell(place) : Value.number(storage.octetAt(place)));
            }
        }

        private void beginPairRound(int dictionary) {
            long key = Value.NONE;
            int pair = -1;
            for (int i = 0; i < OPERATORS && pair < 0 && execution.next() < execution.last(); i++) {
                key = execution.keptKey(execution.next());
                pair = dictionaries.find(dictionary, key);
                // A key that has gone meanwhile is no round, and no step.
                if (pair < 0) {
                    execution.setNext(execution.next() + 1L);
                }
            }
            if (pair < 0) {
                execution.leave();
                return;
            }
            if (!countStep()) {
                return;
            }
            if (!operands.hasRoom(2)) {
                fail(STACK_OVERFLOW, FORALL);
                return;
            }
            execution.setNext(execution.next() + 1L);
            operands.push(key);
            putForRound(FORALL, dictionaries.valueAt(dictionary, pair));
        }

        private void putForRound(int operator, long value) {
            if (operands.push(value)) {
                execution.enter(Execution.PROCEDURE, execution.body());
            } else {
                fail(STACK_OVERFLOW, operator);
            }
        }

        private void fail(int code, int executed) {
            errorNumber = code;
            errorName = executed;
            unwind(FAILED);
        }

        private void unwind(int uncaught) {
            for (int i = 0; i < Execution.MOST && execution.leaveStopped(); i++) {
                if (operands.push(Value.TRUE)) {
                    return;
                }
                errorNumber = STACK_OVERFLOW;
                errorName = STOPPED_OPERATOR;
            }
            outcome = uncaught;
        }

        /** Makes the name's value the current one; an executable name there is one step more. */
        private void followName(int name) {
            long found = dictionaries.lookUp(Value.literalName(name));
            handOn(found, name);
            if (found == Value.NONE) {
                fail(UNDEFINED, name);
            } else if (Value.isExecutableName(found)) {
                countStep();
            }
        }

        private void putOrEnter() {
            boolean enters = !stands && Value.isProcedure(current);
            boolean room = enters ? execution.enter(Execution.PROCEDURE, current) : operands.push(current);
            current = Value.NONE;
            if (!room) {
                fail(enters ? LIMIT_CHECK : STACK_OVERFLOW, culprit);
            }
        }

        private void doOperator(int operator) {
            current = Value.NONE;
            int code = checkOperands(operator);
            if (code == 0) {
                if (operator >= EXEC && operator <= QUIT) {
                    code = control(operator);
                } else if (operator > 42 && operator < EXEC || takesFromDictionary(operator)) {
                    code = pairs.perform(operator);
                } else if (operator > 32 && operator < EXEC || operator == RowOperators.BIND) {
                    code = rows.perform(operator);
                } else {
                    code = plain.perform(operator);
                }
            }
            if (code != 0) {
                fail(code, operator);
            }
        }

        private boolean takesFromDictionary(int operator) {
            return operator >= LENGTH && operator <= PUT
                && Value.kind(operands.top(operator - LENGTH)) == Value.DICTIONARY;
        }

        private int checkOperands(int operator) {
            if (operator < 0 || operator >= SIGNATURES.length) {
                return TYPE_CHECK;
            }
            int signature = SIGNATURES[operator];
            int taken = 0;
            for (int i = 0; i < 4; i++) {
                if ((signature >>> 4 * i) != 0) {
                    taken++;
                }
            }
            if (taken > operands.size) {
                return STACK_UNDERFLOW;
            }
            for (int i = 0; i < taken; i++) {
                if (!takes((signature >>> 4 * i) & 15, operands.top(i))) {
                    return TYPE_CHECK;
                }
            }
            return 0;
        }

        private static boolean takes(int digit, long value) {
            if (digit < 0 || digit >= TAKEN.length) {
                return false;
            }
            if (digit == PROCEDURE_DIGIT) {
                return Value.isProcedure(value);
            }
            return (TAKEN[digit] >>> Value.kind(value) & 1) != 0;
        }

        private int control(int operator) {
            switch (operator) {
                case EXEC: return exec();
                case IF: return branch(2, operands.numberAt(1) == 1 ? operands.top(0) : Value.NONE);
                case IFELSE: return branch(3, operands.numberAt(2) == 1 ? operands.top(1) : operands.top(0));
                case FOR: return loopFor();
                case REPEAT: return repeat();
                case LOOP: return enterLoop(Execution.LOOP, 1);
                case FORALL: return forall();
                case EXIT: return execution.leaveLoop() ? 0 : INVALID_EXIT;
                case STOP:
                    unwind(STOPPED);
                    return 0;
                case STOPPED_OPERATOR: return stopped();
                default:
                    outcome = QUITTED;
                    return 0;
            }
        }

        private int exec() {
            if (Value.isProcedure(operands.top(0)) && !execution.hasRoom(1)) {
                return LIMIT_CHECK;
            }
            handOn(operands.top(0), EXEC);
            operands.drop(1);
            return 0;
        }

        private int branch(int taken, long body) {
            if (!execution.hasRoom(1)) {
                return LIMIT_CHECK;
            }
            operands.drop(taken);
            if (body != Value.NONE) {
                execution.enter(Execution.PROCEDURE, body);
            }
            return 0;
        }

        /** The loop comes onto EXECUTION; the second place that it wants is its rounds'. */
        private int enterLoop(int sort, int taken) {
            if (!execution.hasRoom(2)) {
                return LIMIT_CHECK;
            }
            execution.enter(sort, operands.top(0));
            operands.drop(taken);
            return 0;
        }

        private int loopFor() {
            int first = operands.numberAt(3);
            int stride = operands.numberAt(2);
            int last = operands.numberAt(1);
            if (stride == 0) {
                return RANGE_CHECK;
            }
            int code = enterLoop(Execution.FOR, 4);
            if (code == 0) {
                execution.setBounds(first, stride, last);
            }
            return code;
        }

        private int repeat() {
            int rounds = operands.numberAt(1);
            if (rounds < 0) {
                return RANGE_CHECK;
            }
            int code = enterLoop(Execution.REPEAT, 2);
            if (code == 0) {
                execution.setNext(rounds);
            }
            return code;
        }

        private int forall() {
            long subject = operands.top(1);
            int code = enterLoop(Execution.FORALL, 2);
            if (code != 0) {
                return code;
            }
            if (Value.kind(subject) != Value.DICTIONARY) {
                execution.setSubject(subject, Value.length(subject));
                return 0;
            }
            int rounds = dictionaries.pairsOf((int) subject);
            execution.setSubject(subject, rounds);
            for (int i = 0; i < rounds; i++) {
                execution.keepKey(i, dictionaries.keyAt((int) subject, i));
            }
            return 0;
        }

        private int stopped() {
            if (!execution.hasRoom(2)) {
                return LIMIT_CHECK;
            }
            handOn(operands.top(0), STOPPED_OPERATOR);
            operands.drop(1);
            execution.enter(Execution.STOPPED, Value.NONE);
            return 0;
        }
    }

    /** The operators that look at operands alone: 0 to 32, and 68 to 73. Their operands' kinds are checked before. */
    private static final class PlainOperators {
        static final String NO_TEXT = "--nostringval--";
        static final int TRUE_NAME = 30;
        static final int FALSE_NAME = 31;

        private final Names names;
        private final Storage storage;
        private final Operands operands;

        PlainOperators(Names names, Storage storage, Operands operands) {
            this.names = names;
            this.storage = storage;
            this.operands = operands;
        }

        int perform(int operator) {
            if (operator <= 12) {
                return arrange(operator);
            }
            if (operator <= 19) {
                return calculate(operator, operands.numberAt(1), operands.numberAt(0));
            }
            if (operator <= 25) {
                return compare(operator);
            }
            switch (operator) {
                case 26: case 27: case 28: return combine(operator);
                case 29: return invert();
                case 30: return operands.answer(0, Value.TRUE);
                case 31: return operands.answer(0, Value.FALSE);
                case 32: return operands.answer(0, Value.NOTHING);
                case 68: return operands.answer(1, converted(Value.EXECUTABLE));
                case 69: return operands.answer(1, converted(0L));
                case 70: return operands.answer(1, Value.truth(Value.isExecutable(operands.top(0))));
                case 71: return operands.answer(1, Value.literalName(Names.FIRST_TYPE + Value.kind(operands.top(0))));
                case 72: return writeLine();
                default: return print();
            }
        }

        private int arrange(int operator) {
            switch (operator) {
                case 0:
                    operands.drop(1);
                    return 0;
                case 1:
                    operands.swap();
                    return 0;
                case 2: return operands.answer(0, operands.top(0));
                case 3: return copy(operands.numberAt(0));
                case 4: return index(operands.numberAt(0));
                case 5: return roll(operands.numberAt(1), operands.numberAt(0));
                case 6:
                    operands.forget();
                    return 0;
                case 7: return operands.answer(0, Value.number(operands.size));
                case 8: case 9: case 10: return operands.answer(0, Value.A_MARK);
                case 11: return clearToMark();
                default: return countToMark();
            }
        }

        private int copy(int n) {
            if (n < 0) {
                return RANGE_CHECK;
            }
            if (n > operands.size - 1) {
                return STACK_UNDERFLOW;
            }
            if (!operands.hasRoom(n - 1)) {
                return STACK_OVERFLOW;
            }
            operands.drop(1);
            operands.copyTop(n);
            return 0;
        }

        private int index(int n) {
            if (n < 0) {
                return RANGE_CHECK;
            }
            if (n >= operands.size - 1) {
                return STACK_UNDERFLOW;
            }
            return operands.answer(1, operands.top(n + 1));
        }

        private int roll(int n, int places) {
            if (n < 0) {
                return RANGE_CHECK;
            }
            if (n > operands.size - 2) {
                return STACK_UNDERFLOW;
            }
            operands.drop(2);
            operands.roll(n, places);
            return 0;
        }

        private int clearToMark() {
            int above = operands.aboveMark();
            if (above < 0) {
                return UNMATCHED_MARK;
            }
            operands.drop(above + 1);
            return 0;
        }

        private int countToMark() {
            int above = operands.aboveMark();
            return above < 0 ? UNMATCHED_MARK : operands.answer(0, Value.number(above));
        }

        private int calculate(int operator, int a, int b) {
            switch (operator) {
                case 13: return operands.answer(2, Value.number(a + b));
                case 14: return operands.answer(2, Value.number(a - b));
                case 15: return operands.answer(2, Value.number(a * b));
                case 16: return b == 0 ? UNDEFINED_RESULT : operands.answer(2, Value.number(a / b));
                case 17: return b == 0 ? UNDEFINED_RESULT : operands.answer(2, Value.number(a % b));
                case 18: return operands.answer(1, Value.number(-b));
                default: return operands.answer(1, Value.number(b < 0 ? -b : b));
            }
        }

        private int compare(int operator) {
            long a = operands.top(1);
            long b = operands.top(0);
            if (operator <= 21) {
                return operands.answer(2, Value.truth(areEqual(a, b) == (operator == 20)));
            }
            if (Value.kind(a) != Value.kind(b)) {
                return TYPE_CHECK;
            }
            boolean numbers = Value.kind(a) == Value.NUMBER;
            int order = numbers ? Integer.compare((int) a, (int) b) : compareBytes(a, b);
            switch (operator) {
                case 22: return operands.answer(2, Value.truth(order < 0));
                case 23: return operands.answer(2, Value.truth(order <= 0));
                case 24: return operands.answer(2, Value.truth(order > 0));
                default: return operands.answer(2, Value.truth(order >= 0));
            }
        }

        private boolean areEqual(long a, long b) {
            int kind = Value.kind(a);
            int other = Value.kind(b);
            if (kind == Value.STRING && (other == Value.STRING || other == Value.NAME)
                || kind == Value.NAME && other == Value.STRING) {
                return compareBytes(a, b) == 0;
            }
            // Two of one kind are the same but for being executable, or they are not equal.
            return (a | Value.EXECUTABLE) == (b | Value.EXECUTABLE);
        }

        /** Compares the bytes of names and strings; what is only the other one's beginning is less. */
        private int compareBytes(long a, long b) {
            boolean nameA = Value.kind(a) == Value.NAME;
            boolean nameB = Value.kind(b) == Value.NAME;
            int lengthA = nameA ? names.lengthOf((int) a) : Value.length(a);
            int lengthB = nameB ? names.lengthOf((int) b) : Value.length(b);
            for (int i = 0; i < lengthA && i < lengthB; i++) {
                int octetA = nameA ? names.octetOf((int) a, i) : storage.octetAt((int) a + i);
                int octetB = nameB ? names.octetOf((int) b, i) : storage.octetAt((int) b + i);
                if (octetA != octetB) {
                    return octetA - octetB;
                }
            }
            return lengthA - lengthB;
        }

        private int combine(int operator) {
            int a = operands.numberAt(1);
            int b = operands.numberAt(0);
            int kind = Value.kind(operands.top(0));
            if (Value.kind(operands.top(1)) != kind) {
                return TYPE_CHECK;
            }
            int bits = operator == 26 ? a & b : operator == 27 ? a | b : a ^ b;
            return operands.answer(2, kind == Value.NUMBER ? Value.number(bits) : Value.truth(bits == 1));
        }

        private int invert() {
            int a = operands.numberAt(0);
            boolean number = Value.kind(operands.top(0)) == Value.NUMBER;
            return operands.answer(1, number ? Value.number(~a) : Value.truth(a == 0));
        }

        /** The top operand, executable or literal, if it is one of those that can be both. */
        private long converted(long executable) {
            long value = operands.top(0);
            int kind = Value.kind(value);
            return kind == Value.NAME || kind == Value.ARRAY ? value & ~Value.EXECUTABLE | executable : value;
        }

        private int writeLine() {
            int before = storage.outUsed;
            if (!writeText(operands.top(0)) || !storage.write(10)) {
                storage.outUsed = before;
                return LIMIT_CHECK;
            }
            operands.drop(1);
            return 0;
        }

        private int print() {
            int before = storage.outUsed;
            if (!writeString(operands.top(0))) {
                storage.outUsed = before;
                return LIMIT_CHECK;
            }
            operands.drop(1);
            return 0;
        }

        private boolean writeText(long value) {
            switch (Value.kind(value)) {
                case Value.NUMBER: return writeNumber((int) value);
                case Value.BOOLEAN: return writeName((int) value == 1 ? TRUE_NAME : FALSE_NAME);
                case Value.NAME: case Value.OPERATOR: return writeName((int) value);
                case Value.STRING: return writeString(value);
                default: return writeNoText();
            }
        }

        private boolean writeNumber(int number) {
            long rest = number < 0 ? -(long) number : number;
            boolean room = number >= 0 || storage.write('-');
            boolean begun = false;
            for (long unit = 1000000000L; unit > 0L && room; unit /= 10L) {
                begun = begun || rest >= unit || unit == 1L;
                if (begun) {
                    room = storage.write('0' + (int) (rest / unit));
                    rest %= unit;
                }
            }
            return room;
        }

        private boolean writeName(int name) {
            boolean room = true;
            for (int i = 0; i < names.lengthOf(name) && room; i++) {
                room = storage.write(names.octetOf(name, i));
            }
            return room;
        }

        private boolean writeString(long string) {
            boolean room = true;
            for (int i = 0; i < Value.length(string) && room; i++) {
                room = storage.write(storage.octetAt((int) string + i));
            }
            return room;
        }

        private boolean writeNoText() {
            boolean room = true;
            for (int i = 0; i < NO_TEXT.length() && room; i++) {
                room = storage.write(NO_TEXT.charAt(i));
            }
            return room;
        }
    }

    /** The operators of arrays and strings: 33 to 42, and bind. Their operands' kinds are checked before. */
    private static final class RowOperators {
        static final int BIND = 67;
        static final int LONGEST = 200;

        private final Names names;
        private final Storage storage;
        private final Dictionaries dictionaries;
        private final Operands operands;
        private final long[] moved = new long[Storage.MOST_CELLS];
        // The arrays that bind has found: one at most in each cell, and the first one.
        private final long[] found = new long[Storage.MOST_CELLS + 1];
        private int foundCount;

        RowOperators(Names names, Storage storage, Dictionaries dictionaries, Operands operands) {
            this.names = names;
            this.storage = storage;
            this.dictionaries = dictionaries;
            this.operands = operands;
        }

        int perform(int operator) {
            switch (operator) {
                case 33: return makeArray(operands.numberAt(0));
                case 34: return makeString(operands.numberAt(0));
                case 35: return measure();
                case 36: return fetch();
                case 37: return put();
                case 38: return takeInterval();
                case 39: return putInterval();
                case 40: return load();
                case 41: return store();
                case 42: return closeArray();
                default: return bind();
            }
        }

        private int makeArray(int length) {
            if (length < 0 || length > LONGEST) {
                return RANGE_CHECK;
            }
            int place = storage.makeArray(length);
            return place < 0 ? LIMIT_CHECK : operands.answer(1, Value.array(place, length));
        }

        private int makeString(int length) {
            if (length < 0 || length > LONGEST) {
                return RANGE_CHECK;
            }
            int place = storage.makeString(length);
            return place < 0 ? LIMIT_CHECK : operands.answer(1, Value.string(place, length));
        }

        private int measure() {
            long value = operands.top(0);
            boolean name = Value.kind(value) == Value.NAME;
            return operands.answer(1, Value.number(name ? names.lengthOf((int) value) : Value.length(value)));
        }

        private static boolean isIndex(long row, int i) {
            return i >= 0 && i < Value.length(row);
        }

        private int fetch() {
            long row = operands.top(1);
            int i = operands.numberAt(0);
            if (Value.kind(operands.top(0)) != Value.NUMBER) {
                return TYPE_CHECK;
            }
            if (!isIndex(row, i)) {
                return RANGE_CHECK;
            }
            int place = (int) row + i;
            boolean array = Value.kind(row) == Value.ARRAY;
            return operands.answer(2, array ? storage.cell(place) : Value.number(storage.octetAt(place)));
        }

        private int put() {
            long row = operands.top(2);
            int i = operands.numberAt(1);
            long value = operands.top(0);
            boolean array = Value.kind(row) == Value.ARRAY;
            if (Value.kind(operands.top(1)) != Value.NUMBER || !array && Value.kind(value) != Value.NUMBER) {
                return TYPE_CHECK;
            }
            if (!isIndex(row, i) || !array && ((int) value < 0 || (int) value > 255)) {
                return RANGE_CHECK;
            }
            if (array) {
                storage.setCell((int) row + i, value);
            } else {
                storage.setOctet((int) row + i, (int) value);
            }
            operands.drop(3);
            return 0;
        }

        private int takeInterval() {
            long row = operands.top(2);
            int first = operands.numberAt(1);
            int length = operands.numberAt(0);
            if (first < 0 || length < 0 || length > Value.length(row) || first > Value.length(row) - length) {
                return RANGE_CHECK;
            }
            return operands.answer(3, Value.partOf(row, first, length));
        }

        private int putInterval() {
            long row = operands.top(2);
            int first = operands.numberAt(1);
            long part = operands.top(0);
            if (Value.kind(row) != Value.kind(part)) {
                return TYPE_CHECK;
            }
            if (first < 0 || first > Value.length(row) - Value.length(part)) {
                return RANGE_CHECK;
            }
            if (Value.kind(row) == Value.ARRAY) {
                moveCells((int) part, (int) row + first, Value.length(part));
            } else {
                moveOctets((int) part, (int) row + first, Value.length(part));
            }
            operands.drop(3);
            return 0;
        }

        // Both moves go by way of a row of their own: the two parts may overlap.
        private void moveCells(int from, int to, int length) {
            for (int i = 0; i < length && i < moved.length; i++) {
                moved[i] = storage.cell(from + i);
            }
            for (int i = 0; i < length && i < moved.length; i++) {
                storage.setCell(to + i, moved[i]);
            }
        }

        private void moveOctets(int from, int to, int length) {
            for (int i = 0; i < length && i < moved.length; i++) {
                moved[i] = storage.octetAt(from + i);
            }
            for (int i = 0; i < length && i < moved.length; i++) {
                storage.setOctet(to + i, (int) moved[i]);
            }
        }

        private int load() {
            long array = operands.top(0);
            int length = Value.length(array);
            if (!operands.hasRoom(length)) {
                return STACK_OVERFLOW;
            }
            operands.drop(1);
            for (int i = 0; i < length; i++) {
                operands.push(storage.cell((int) array + i));
            }
            operands.push(array);
            return 0;
        }

        private int store() {
            long array = operands.top(0);
            int length = Value.length(array);
            if (length > operands.size - 1) {
                return STACK_UNDERFLOW;
            }
            for (int i = 0; i < length; i++) {
                storage.setCell((int) array + i, operands.top(length - i));
            }
            return operands.answer(length + 1, array);
        }

        private int closeArray() {
            int length = operands.aboveMark();
            if (length < 0) {
                return UNMATCHED_MARK;
            }
            int place = storage.makeArray(length);
            if (place < 0) {
                return LIMIT_CHECK;
            }
            for (int i = 0; i < length; i++) {
                storage.setCell(place + i, operands.top(length - 1 - i));
            }
            return operands.answer(length + 1, Value.array(place, length));
        }

        private int bind() {
            foundCount = 0;
            noteArray(operands.top(0));
            for (int i = 0; i < foundCount && i < found.length; i++) {
                bindArray(found[i]);
            }
            return 0;
        }

        /** Each array of one place and length is noted once, so that rows which hold themselves come to an end. */
        private void noteArray(long array) {
            for (int i = 0; i < foundCount && i < found.length; i++) {
                if (found[i] == array) {
                    return;
                }
            }
            if (foundCount >= 0 && foundCount < found.length) {
                found[foundCount] = array;
                foundCount++;
            }
        }

        private void bindArray(long array) {
            int end = (int) array + Value.length(array);
            for (int place = (int) array; place < end; place++) {
                long value = storage.cell(place);
                if (Value.isProcedure(value)) {
                    noteArray(value);
                } else if (Value.isExecutableName(value)) {
                    long known = dictionaries.lookUp(Value.literalName((int) value));
                    if (Value.kind(known) == Value.OPERATOR) {
                        storage.setCell(place, known);
                    }
                }
            }
        }
    }

    /** The operators 43 to 55, and length, get and put of dictionaries. Their operands' kinds are checked before. */
    private static final class DictionaryOperators {
        static final int LARGEST = 20;
        // The kinds of keys: a number, true or false, a name, and a string, which stands for one.
        static final int KEY_KINDS = 0x056;

        private final Names names;
        private final Storage storage;
        private final Dictionaries dictionaries;
        private final Operands operands;
        private long key;

        DictionaryOperators(Names names, Storage storage, Dictionaries dictionaries, Operands operands) {
            this.names = names;
            this.storage = storage;
            this.dictionaries = dictionaries;
            this.operands = operands;
        }

        int perform(int operator) {
            switch (operator) {
                case 35: return operands.answer(1, Value.number(dictionaries.pairsOf(operands.numberAt(0))));
                case 36: return fetch();
                case 37: return put();
                case 43: return closePairs();
                case 44: return make(operands.numberAt(0));
                case 45: return begin();
                case 46: return dictionaries.end() ? 0 : DICT_STACK_UNDERFLOW;
                case 47: return define();
                case 48: return load();
                case 49: return store();
                case 50: return known();
                case 51: return where();
                case 52: return undefine();
                case 53: return operands.answer(0, Value.dictionaryOf(dictionaries.current()));
                case 54: return operands.answer(0, Value.number(dictionaries.depth));
                default: return operands.answer(1, Value.number(dictionaries.roomOf(operands.numberAt(0))));
            }
        }

        private static boolean isKey(long value) {
            return (KEY_KINDS >>> Value.kind(value) & 1) != 0;
        }

        /** Makes key what the value is as a key; answers an error's number, or 0. */
        private int takeKey(long value) {
            int kind = Value.kind(value);
            key = value & ~Value.EXECUTABLE;
            if (kind != Value.STRING) {
                return (KEY_KINDS >>> kind & 1) != 0 ? 0 : TYPE_CHECK;
            }
            names.startDraft();
            for (int i = 0; i < Value.length(value); i++) {
                names.addToDraft(storage.octetAt((int) value + i));
            }
            int name = names.meetDraft();
            key = Value.literalName(name);
            return name < 0 ? LIMIT_CHECK : 0;
        }

        private int fetch() {
            int code = takeKey(operands.top(0));
            if (code != 0) {
                return code;
            }
            int dictionary = operands.numberAt(1);
            int pair = dictionaries.find(dictionary, key);
            return pair < 0 ? UNDEFINED : operands.answer(2, dictionaries.valueAt(dictionary, pair));
        }

        /** Drops what was taken, if the change before it went well. */
        private int finish(int code, int taken) {
            if (code == 0) {
                operands.drop(taken);
            }
            return code;
        }

        private int put() {
            int code = takeKey(operands.top(1));
            return code != 0 ? code : finish(dictionaries.put(operands.numberAt(2), key, operands.top(0)), 3);
        }

        private int define() {
            int code = takeKey(operands.top(1));
            return code != 0 ? code : finish(dictionaries.put(dictionaries.current(), key, operands.top(0)), 2);
        }

        private int store() {
            int code = takeKey(operands.top(1));
            if (code != 0) {
                return code;
            }
            int holder = dictionaries.holder(key);
            int dictionary = holder < 0 ? dictionaries.current() : holder;
            return finish(dictionaries.put(dictionary, key, operands.top(0)), 2);
        }

        private int undefine() {
            int code = takeKey(operands.top(0));
            return code != 0 ? code : finish(dictionaries.remove(operands.numberAt(1), key), 2);
        }

        private int load() {
            int code = takeKey(operands.top(0));
            if (code != 0) {
                return code;
            }
            long value = dictionaries.lookUp(key);
            return value == Value.NONE ? UNDEFINED : operands.answer(1, value);
        }

        private int known() {
            int code = takeKey(operands.top(0));
            if (code != 0) {
                return code;
            }
            return operands.answer(2, Value.truth(dictionaries.find(operands.numberAt(1), key) >= 0));
        }

        private int where() {
            int code = takeKey(operands.top(0));
            if (code != 0) {
                return code;
            }
            int holder = dictionaries.holder(key);
            if (holder < 0) {
                return operands.answer(1, Value.FALSE);
            }
            if (!operands.hasRoom(1)) {
                return STACK_OVERFLOW;
            }
            operands.answer(1, Value.dictionaryOf(holder));
            return operands.answer(0, Value.TRUE);
        }

        private int make(int room) {
            if (room < 0 || room > LARGEST) {
                return RANGE_CHECK;
            }
            int dictionary = dictionaries.make(room);
            return dictionary < 0 ? LIMIT_CHECK : operands.answer(1, Value.dictionaryOf(dictionary));
        }

        private int begin() {
            return finish(dictionaries.begin(operands.numberAt(0)) ? 0 : DICT_STACK_OVERFLOW, 1);
        }

        private int closePairs() {
            int above = operands.aboveMark();
            if (above < 0) {
                return UNMATCHED_MARK;
            }
            if (above % 2 != 0) {
                return RANGE_CHECK;
            }
            int code = checkKeys(above);
            if (code != 0) {
                return code;
            }
            int dictionary = dictionaries.make(above / 2);
            if (dictionary < 0) {
                return LIMIT_CHECK;
            }
            for (int i = above - 1; i > 0; i -= 2) {
                takeKey(operands.top(i));
                dictionaries.put(dictionary, key, operands.top(i - 1));
            }
            return operands.answer(above + 1, Value.dictionaryOf(dictionary));
        }

        /** All keys' kinds come first; then the strings among them are met as names, the lowest one first. */
        private int checkKeys(int above) {
            for (int i = above - 1; i > 0; i -= 2) {
                if (!isKey(operands.top(i))) {
                    return TYPE_CHECK;
                }
            }
            int code = 0;
            for (int i = above - 1; i > 0 && code == 0; i -= 2) {
                code = takeKey(operands.top(i));
            }
            return code;
        }
    }
}

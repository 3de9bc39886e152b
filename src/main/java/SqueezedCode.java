/**
 * A program for a small processor and the table of sequences that squeezes it: what the squeezed
 * code comes to, which sequence would save how much, and runs of the program plain or squeezed.
 */
public final class SqueezedCode {

    public static final int BAD = -1, NO = -2, FULL = -3, NONE = -4, ZERO = 100000;

    private static final String FIRST_PROGRAM =
            "a5s0a3m2s1w0a5s0a7m2s1w1k14qa1a5s0a9m2s1w2l0z26x1s0j16h";

    /** The letter of each kind, at the place that is the kind's nibble. */
    private static final String KIND_LETTERS = "amxslpwjzkqh";
    private static final int PLUS = 0, TIMES = 1, FLIP = 2, STORE = 3, LOAD = 4, PLUS_CELL = 5,
            TELL = 6, JUMP = 7, JUMP_AT_ZERO = 8, TAKE_ADDRESS = 9, JUMP_BY_SUM = 10, HALT = 11;
    private static final int LAST_SIMPLE = TELL, LAST_WITH_TARGET = TAKE_ADDRESS;

    private static final int MOST_LETTERS = 200;
    private static final int MOST_INSTRUCTIONS = 48;
    private static final int MOST_NIBBLES = 4 * MOST_INSTRUCTIONS;
    private static final int MOST_ENTRIES = 8;
    private static final int LEAST_PARTS = 2, MOST_PARTS = 4;
    private static final int MOST_UNDONE = 6;
    private static final int MOST_HELD = 4;
    private static final int MOST_CELLS = 10;
    private static final int MOST_OUT = 12;
    private static final int MOST_STEPS = 400;
    private static final int REFERENCE_MARK = 15;
    private static final int LINE_NIBBLES = 3;
    private static final int SUM_MASK = 0xFFFF;

    private final Text text = new Text();
    private final Program program = new Program();
    private final Setup setup = new Setup();
    private final History history = new History();
    private final Layout layout = new Layout(program, setup);
    private final Choice choice = new Choice(layout, setup);
    private final Run run = new Run(program, layout);

    public SqueezedCode() {
        for (int i = 0; i < FIRST_PROGRAM.length(); i++) {
            text.append(FIRST_PROGRAM.charAt(i));
        }
        if (text.findFault() == NONE) {
            program.take(text);
        }
        text.empty();
        layout.reckon();
    }

    // ---- the program

    public int write(int letter) {
        if (letter < 32 || letter > 126) {
            return BAD;
        }
        return text.append((char) letter);
    }

    public int wipe() {
        return text.empty();
    }

    public int fault() {
        return text.findFault();
    }

    public int lay() {
        if (text.findFault() != NONE || text.instructions == 0) {
            return NO;
        }
        program.take(text);
        setup.entries = 0;
        history.depth = 0;
        settle();
        return program.length;
    }

    public int code(int i, int what) {
        if (!program.has(i)) {
            return BAD;
        }
        switch (what) {
            case 0: return letterOf(program.kinds[i]);
            case 1: return program.values[i];
            case 2: return program.targets[i] ? 1 : 0;
            case 3: return layout.owners[i];
            case 4: return layout.places[i];
            default: return BAD;
        }
    }

    // ---- the table

    public int add(int i, int n, int h) {
        int hindrance = hindranceTo(i, n, h);
        if (hindrance != 0) {
            return hindrance;
        }
        history.keep(setup);
        int number = setup.entries;
        setup.append(program, i, n, h);
        settle();
        return number;
    }

    public int drop(int e) {
        if (!setup.has(e)) {
            return BAD;
        }
        history.keep(setup);
        setup.remove(e);
        settle();
        return setup.entries;
    }

    public int gain(int i, int n, int h) {
        int hindrance = hindranceTo(i, n, h);
        if (hindrance != 0) {
            return hindrance;
        }
        return layout.gainOf(i, n, h) + ZERO;
    }

    public int choose(int n) {
        if (n < 1 || n > MOST_ENTRIES) {
            return BAD;
        }
        boolean found = choice.find();
        if (!found) {
            return NO;
        }
        history.keep(setup);
        int before = setup.entries;
        for (int k = 0; k < n && found; k++) {
            setup.append(program, choice.first, choice.parts, choice.hole);
            layout.reckon();
            found = choice.find();
        }
        run.end();
        return setup.entries - before;
    }

    public int entry(int e, int what) {
        if (!setup.has(e)) {
            return BAD;
        }
        Entry entry = setup.table[e];
        switch (what) {
            case 0: return entry.parts;
            case 1: return entry.hole;
            case 2: return layout.referencesTo(e);
            case 3: return layout.matchesOf(entry);
            default: return BAD;
        }
    }

    public int part(int e, int i, int what) {
        if (!setup.has(e) || i < 0 || what < 0 || what > 1) {
            return BAD;
        }
        Entry entry = setup.table[e];
        if (i >= entry.parts) {
            return NONE;
        }
        if (what == 0) {
            return letterOf(entry.kinds[i]);
        }
        return i == entry.hole ? NONE : entry.values[i];
    }

    public int wide(int w) {
        if (w != 4 && w != 8 && w != 16) {
            return BAD;
        }
        int was = setup.lineWidth;
        if (w == was) {
            return NO;
        }
        history.keep(setup);
        setup.lineWidth = w;
        settle();
        return was;
    }

    public int hold(int c) {
        if (c < 1 || c > MOST_HELD) {
            return BAD;
        }
        int was = setup.mostHeld;
        if (c == was) {
            return NO;
        }
        history.keep(setup);
        setup.mostHeld = c;
        settle();
        return was;
    }

    public int undo() {
        if (history.depth == 0) {
            return NO;
        }
        history.giveBack(setup);
        settle();
        return history.depth;
    }

    // ---- what it comes to

    public int size(int what) {
        switch (what) {
            case 0: return layout.length;
            case 1: return setup.tableNibbles();
            case 2: return LINE_NIBBLES * layout.lines;
            case 3: return layout.length + setup.tableNibbles() + LINE_NIBBLES * layout.lines;
            case 4: return program.plainNibbles();
            case 5: return layout.references(0, program.length);
            default: return BAD;
        }
    }

    public int nibble(int i) {
        if (i < 0) {
            return BAD;
        }
        return i < layout.length ? layout.nibbles[i] : NONE;
    }

    public int address(int i) {
        return program.has(i) ? layout.addresses[i] : BAD;
    }

    public int at(int address) {
        if (address < 0) {
            return BAD;
        }
        return layout.instructionOf(address);
    }

    public int line(int l, int what) {
        if (l < 0 || l >= layout.lines) {
            return BAD;
        }
        switch (what) {
            case 0: return layout.lineAddress(l);
            case 1: return layout.lineNibbles(l);
            case 2: return layout.references(layout.firstOf(l), layout.firstOf(l + 1));
            default: return BAD;
        }
    }

    public int seek(int i) {
        if (!program.has(i)) {
            return BAD;
        }
        return layout.ends[i] - layout.lineAddress(layout.lineOf(i));
    }

    // ---- run

    public int start(int kind) {
        if (kind < 0 || kind > 1) {
            return BAD;
        }
        run.begin(kind == 1, setup.mostHeld);
        return 0;
    }

    public int step(int n) {
        if (n < 1 || n > MOST_STEPS) {
            return BAD;
        }
        if (!run.exists || run.ended) {
            return NO;
        }
        return run.go(n);
    }

    public int now(int what) {
        if (what < 0 || what > 8) {
            return BAD;
        }
        return run.exists ? run.tell(what) : NO;
    }

    public int held(int i) {
        if (i < 0) {
            return BAD;
        }
        if (!run.exists) {
            return NO;
        }
        return i < run.heldCount ? run.heldLines[i] : NONE;
    }

    public int cell(int k) {
        if (k < 0 || k >= MOST_CELLS) {
            return BAD;
        }
        return run.exists ? run.cells[k] : NO;
    }

    public int out(int i) {
        if (i < 0) {
            return BAD;
        }
        if (!run.exists) {
            return NO;
        }
        return i < run.toldCount ? run.told[i] : NONE;
    }

    public int count(int what) {
        switch (what) {
            case 0: return program.length;
            case 1: return setup.entries;
            case 2: return setup.lineWidth;
            case 3: return setup.mostHeld;
            case 4: return layout.lines;
            case 5: return program.targetCount();
            case 6: return history.depth;
            case 7: return text.length;
            case 8: return run.exists ? 1 : 0;
            default: return BAD;
        }
    }

    // ---- what several calls share

    /** Whatever changed, where code lies may have changed with it, so no run outlasts it. */
    private void settle() {
        layout.reckon();
        run.end();
    }

    /** Why a sequence can't be an entry more: BAD, NO or FULL; 0 if it can. */
    private int hindranceTo(int i, int n, int h) {
        if (!program.has(i) || n < LEAST_PARTS || n > MOST_PARTS || h < -1 || h >= n) {
            return BAD;
        }
        if (!layout.isSequence(i, n) || setup.hasAlike(program, i, n, h)) {
            return NO;
        }
        return setup.entries < MOST_ENTRIES ? 0 : FULL;
    }

    private static int letterOf(int kind) {
        return kind >= PLUS && kind <= HALT ? KIND_LETTERS.charAt(kind) : NONE;
    }

    private static boolean isSimple(int kind) {
        return kind >= PLUS && kind <= LAST_SIMPLE;
    }

    private static boolean hasTarget(int kind) {
        return kind > LAST_SIMPLE && kind <= LAST_WITH_TARGET;
    }

    /** The nibbles of an instruction of this kind by itself. */
    private static int nibblesOf(int kind) {
        if (isSimple(kind)) {
            return 2;
        }
        return hasTarget(kind) ? 4 : 1;
    }

    /** The nibbles of a reference to an entry with this hole, or none. */
    private static int referenceNibbles(int hole) {
        return hole < 0 ? 2 : 3;
    }

    /** The nibbles that an entry of so many letters takes in the table. */
    private static int entryNibbles(int parts) {
        return 1 + 2 * parts;
    }

    /** The text, letter by letter, and where its instructions begin. */
    private static final class Text {
        private final char[] letters = new char[MOST_LETTERS];
        private final int[] starts = new int[MOST_INSTRUCTIONS];
        private int length;
        private int instructions;

        int append(char letter) {
            if (length >= MOST_LETTERS) {
                return FULL;
            }
            letters[length] = letter;
            length++;
            return length;
        }

        int empty() {
            int was = length;
            length = 0;
            return was;
        }

        /** The place of the fault or NONE; the instructions can be asked for only behind NONE. */
        int findFault() {
            instructions = 0;
            int place = 0;
            for (int k = 0; k < MOST_LETTERS && place < length; k++) {
                int width = k < MOST_INSTRUCTIONS ? widthAt(place) : 0;
                if (width == 0) {
                    return place;
                }
                starts[k] = place;
                instructions = k + 1;
                place += width;
            }
            return findLostTarget();
        }

        private int findLostTarget() {
            for (int k = 0; k < instructions; k++) {
                if (hasTarget(kindOf(k)) && valueOf(k) >= instructions) {
                    return starts[k];
                }
            }
            return NONE;
        }

        /** How many letters the instruction at a place has; 0 if there is none. */
        private int widthAt(int place) {
            int kind = KIND_LETTERS.indexOf(letters[place]);
            if (kind < 0) {
                return 0;
            }
            int figures = hasTarget(kind) ? 2 : isSimple(kind) ? 1 : 0;
            if (place + figures >= length) {
                return 0;
            }
            for (int k = 1; k <= figures; k++) {
                char letter = letters[place + k];
                if (letter < '0' || letter > '9') {
                    return 0;
                }
            }
            return 1 + figures;
        }

        int kindOf(int instruction) {
            return KIND_LETTERS.indexOf(letters[starts[instruction]]);
        }

        /** K or TT; NONE if the instruction has neither. */
        int valueOf(int instruction) {
            int kind = kindOf(instruction);
            int place = starts[instruction];
            if (isSimple(kind)) {
                return letters[place + 1] - '0';
            }
            if (hasTarget(kind)) {
                return 10 * (letters[place + 1] - '0') + letters[place + 2] - '0';
            }
            return NONE;
        }
    }

    /** The instructions that are laid. */
    private static final class Program {
        private final int[] kinds = new int[MOST_INSTRUCTIONS];
        private final int[] values = new int[MOST_INSTRUCTIONS];
        private final boolean[] targets = new boolean[MOST_INSTRUCTIONS];
        private int length;

        /** Takes the instructions of a text that has no fault. */
        void take(Text text) {
            length = text.instructions;
            for (int i = 0; i < length; i++) {
                kinds[i] = text.kindOf(i);
                values[i] = text.valueOf(i);
                targets[i] = false;
            }
            for (int i = 0; i < length; i++) {
                if (hasTarget(kinds[i]) && has(values[i])) {
                    targets[values[i]] = true;
                }
            }
        }

        boolean has(int i) {
            return i >= 0 && i < length;
        }

        int targetCount() {
            int found = 0;
            for (int i = 0; i < length; i++) {
                if (targets[i]) {
                    found++;
                }
            }
            return found;
        }

        int plainNibbles() {
            int nibbles = 0;
            for (int i = 0; i < length; i++) {
                nibbles += nibblesOf(kinds[i]);
            }
            return nibbles;
        }
    }

    /** What stands in the table once: letters with their K, one of which may be a hole. */
    private static final class Entry {
        private final int[] kinds = new int[MOST_PARTS];
        private final int[] values = new int[MOST_PARTS];
        private int parts;
        private int hole;

        void take(Program program, int i, int n, int h) {
            parts = n;
            hole = h < 0 ? NONE : h;
            for (int k = 0; k < n; k++) {
                kinds[k] = program.kinds[i + k];
                values[k] = program.values[i + k];
            }
        }

        void copy(Entry other) {
            parts = other.parts;
            hole = other.hole;
            for (int k = 0; k < MOST_PARTS; k++) {
                kinds[k] = other.kinds[k];
                values[k] = other.values[k];
            }
        }

        /** Whether instructions of a program, as many as this has, are as this asks. */
        boolean fits(Program program, int i) {
            if (i < 0 || i > program.length - parts) {
                return false;
            }
            for (int k = 0; k < parts; k++) {
                if (kinds[k] != program.kinds[i + k]) {
                    return false;
                }
                if (k != hole && values[k] != program.values[i + k]) {
                    return false;
                }
            }
            return true;
        }
    }

    /** All that a change changes and that an undo gives back: the table, W and C. */
    private static final class Setup {
        private final Entry[] table = new Entry[MOST_ENTRIES];
        private int entries;
        private int lineWidth = 8;
        private int mostHeld = 2;

        Setup() {
            for (int e = 0; e < MOST_ENTRIES; e++) {
                table[e] = new Entry();
            }
        }

        void copy(Setup other) {
            entries = other.entries;
            lineWidth = other.lineWidth;
            mostHeld = other.mostHeld;
            for (int e = 0; e < entries; e++) {
                table[e].copy(other.table[e]);
            }
        }

        boolean has(int e) {
            return e >= 0 && e < entries;
        }

        void append(Program program, int i, int n, int h) {
            if (entries < MOST_ENTRIES) {
                table[entries].take(program, i, n, h);
                entries++;
            }
        }

        void remove(int e) {
            entries--;
            for (int k = e; k < entries; k++) {
                table[k].copy(table[k + 1]);
            }
        }

        boolean hasAlike(Program program, int i, int n, int h) {
            int hole = h < 0 ? NONE : h;
            for (int e = 0; e < entries; e++) {
                Entry entry = table[e];
                if (entry.parts == n && entry.hole == hole && entry.fits(program, i)) {
                    return true;
                }
            }
            return false;
        }

        int tableNibbles() {
            int nibbles = 0;
            for (int e = 0; e < entries; e++) {
                nibbles += entryNibbles(table[e].parts);
            }
            return nibbles;
        }
    }

    /** What stood ahead of each of the latest changes, the oldest first. */
    private static final class History {
        private final Setup[] kept = new Setup[MOST_UNDONE];
        private int depth;

        History() {
            for (int k = 0; k < MOST_UNDONE; k++) {
                kept[k] = new Setup();
            }
        }

        void keep(Setup setup) {
            if (depth == MOST_UNDONE) {
                for (int k = 1; k < MOST_UNDONE; k++) {
                    kept[k - 1].copy(kept[k]);
                }
                depth--;
            }
            kept[depth].copy(setup);
            depth++;
        }

        void giveBack(Setup setup) {
            if (depth > 0) {
                depth--;
                setup.copy(kept[depth]);
            }
        }
    }

    /** The best cover and the code that it tells, reckoned anew by each change. */
    private static final class Layout {
        private final Program program;
        private final Setup setup;
        /** How many instructions from each on the longest sequence has; 1 or less: none. */
        private final int[] reaches = new int[MOST_INSTRUCTIONS];
        /** By instruction and parts: the nibbles of the shortest reference; 0 if there is none. */
        private final int[][] shortest = new int[MOST_INSTRUCTIONS][MOST_PARTS + 1];
        /** The fewest nibbles from each instruction on, and the entry it takes for that. */
        private final int[] fewest = new int[MOST_INSTRUCTIONS + 1];
        private final int[] picks = new int[MOST_INSTRUCTIONS];
        private final int[] trial = new int[MOST_INSTRUCTIONS + 1];
        private final Entry candidate = new Entry();
        /** By instruction: its entry, its place in that, its address (each NONE if it has none). */
        private final int[] owners = new int[MOST_INSTRUCTIONS];
        private final int[] places = new int[MOST_INSTRUCTIONS];
        private final int[] addresses = new int[MOST_INSTRUCTIONS];
        /** By instruction: the address behind it, or behind its reference. */
        private final int[] ends = new int[MOST_INSTRUCTIONS];
        private final int[] nibbles = new int[MOST_NIBBLES];
        private int length;
        private int lines;
        /** W is a power of two, so a shift finds a line without a divisor. */
        private int lineShift;

        Layout(Program program, Setup setup) {
            this.program = program;
            this.setup = setup;
        }

        void reckon() {
            lineShift = setup.lineWidth == 4 ? 2 : setup.lineWidth == 8 ? 3 : 4;
            lines = (program.length + setup.lineWidth - 1) >> lineShift;
            measureReaches();
            findBest();
            placeAll();
            layNibbles();
        }

        private void measureReaches() {
            for (int i = program.length - 1; i >= 0; i--) {
                if (!isSimple(program.kinds[i])) {
                    reaches[i] = 0;
                } else if (leadsOn(i)) {
                    reaches[i] = Math.min(MOST_PARTS, 1 + reaches[i + 1]);
                } else {
                    reaches[i] = 1;
                }
            }
        }

        /** Whether a sequence with an instruction may go on with the next one. */
        private boolean leadsOn(int i) {
            return program.has(i + 1) && lineOf(i) == lineOf(i + 1)
                    && isSimple(program.kinds[i + 1]) && !program.targets[i + 1];
        }

        /** From the end on, so that each instruction in its turn takes what is best by the order told. */
        private void findBest() {
            fewest[program.length] = 0;
            for (int i = program.length - 1; i >= 0; i--) {
                for (int parts = LEAST_PARTS; parts <= MOST_PARTS; parts++) {
                    shortest[i][parts] = 0;
                }
                fewest[i] = nibblesOf(program.kinds[i]) + fewest[i + 1];
                picks[i] = NONE;
                for (int e = 0; e < setup.entries; e++) {
                    offer(i, e);
                }
            }
        }

        private void offer(int i, int e) {
            Entry entry = setup.table[e];
            if (!matches(entry, i)) {
                return;
            }
            int reference = referenceNibbles(entry.hole);
            int sofar = shortest[i][entry.parts];
            if (sofar == 0 || reference < sofar) {
                shortest[i][entry.parts] = reference;
            }
            int nibblesWithIt = reference + fewest[i + entry.parts];
            if (nibblesWithIt < fewest[i]) {
                fewest[i] = nibblesWithIt;
                picks[i] = e;
            }
        }

        private void placeAll() {
            int owner = NONE;
            int place = 0;
            int left = 0;
            length = 0;
            for (int i = 0; i < program.length; i++) {
                boolean first = left == 0;
                addresses[i] = first ? length : NONE;
                if (first) {
                    owner = picks[i];
                    place = 0;
                    boolean alone = owner < 0;
                    left = alone ? 1 : setup.table[owner].parts;
                    length += alone ? nibblesOf(program.kinds[i])
                            : referenceNibbles(setup.table[owner].hole);
                }
                owners[i] = owner;
                places[i] = owner < 0 ? NONE : place;
                ends[i] = length;
                place++;
                left--;
            }
        }

        private void layNibbles() {
            for (int i = 0; i < program.length; i++) {
                if (addresses[i] >= 0 && owners[i] >= 0) {
                    layReference(i);
                } else if (addresses[i] >= 0) {
                    layAlone(i);
                }
            }
        }

        private void layReference(int i) {
            int place = addresses[i];
            int hole = setup.table[owners[i]].hole;
            nibbles[place] = REFERENCE_MARK;
            nibbles[place + 1] = owners[i];
            if (hole >= 0) {
                nibbles[place + 2] = program.values[i + hole];
            }
        }

        private void layAlone(int i) {
            int place = addresses[i];
            int kind = program.kinds[i];
            nibbles[place] = kind;
            if (isSimple(kind)) {
                nibbles[place + 1] = program.values[i];
            } else if (hasTarget(kind) && program.has(program.values[i])) {
                int address = addresses[program.values[i]];
                nibbles[place + 1] = (address >> 8) & 15;
                nibbles[place + 2] = (address >> 4) & 15;
                nibbles[place + 3] = address & 15;
            }
        }

        boolean isSequence(int i, int n) {
            return program.has(i) && n >= LEAST_PARTS && n <= reaches[i];
        }

        private boolean matches(Entry entry, int i) {
            return entry.parts <= reaches[i] && entry.fits(program, i);
        }

        /** How much shorter all would be with a sequence as an entry more; below 0 if longer. */
        int gainOf(int i, int n, int h) {
            candidate.take(program, i, n, h);
            return length - fewestWithCandidate() - entryNibbles(n);
        }

        private int fewestWithCandidate() {
            int reference = referenceNibbles(candidate.hole);
            trial[program.length] = 0;
            for (int k = program.length - 1; k >= 0; k--) {
                int best = nibblesOf(program.kinds[k]) + trial[k + 1];
                for (int parts = LEAST_PARTS; parts <= reaches[k]; parts++) {
                    if (shortest[k][parts] > 0) {
                        best = Math.min(best, shortest[k][parts] + trial[k + parts]);
                    }
                }
                if (matches(candidate, k)) {
                    best = Math.min(best, reference + trial[k + candidate.parts]);
                }
                trial[k] = best;
            }
            return trial[0];
        }

        /** No gain is greater: as if each match were a reference that nothing else stands in for. */
        int mostGainOf(int i, int n, int h) {
            candidate.take(program, i, n, h);
            int savedByEach = 2 * n - referenceNibbles(candidate.hole);
            return savedByEach * matchesOf(candidate) - entryNibbles(n);
        }

        int matchesOf(Entry entry) {
            int found = 0;
            for (int i = 0; i < program.length; i++) {
                if (matches(entry, i)) {
                    found++;
                }
            }
            return found;
        }

        int referencesTo(int e) {
            int found = 0;
            for (int i = 0; i < program.length; i++) {
                if (owners[i] == e && places[i] == 0) {
                    found++;
                }
            }
            return found;
        }

        /** The references in code from one instruction on to ahead of another. */
        int references(int from, int to) {
            int found = 0;
            for (int i = from; i < to && i < program.length; i++) {
                if (places[i] == 0) {
                    found++;
                }
            }
            return found;
        }

        int instructionOf(int address) {
            for (int i = 0; i < program.length; i++) {
                if (addresses[i] == address) {
                    return i;
                }
            }
            return NONE;
        }

        int lineOf(int i) {
            return i >> lineShift;
        }

        int firstOf(int line) {
            return line << lineShift;
        }

        /** No reference reaches over the end of a line, so its first instruction has an address. */
        int lineAddress(int line) {
            int first = firstOf(line);
            return program.has(first) ? addresses[first] : length;
        }

        int lineNibbles(int line) {
            return lineAddress(line + 1) - lineAddress(line);
        }
    }

    /** The search for the sequence that saves most. */
    private static final class Choice {
        private final Layout layout;
        private final Setup setup;
        private int first;
        private int parts;
        private int hole;
        private int greatest;

        Choice(Layout layout, Setup setup) {
            this.layout = layout;
            this.setup = setup;
        }

        /** Goes from the shortest, with no hole, lowest on, so that only a greater gain is better. */
        boolean find() {
            greatest = 0;
            if (setup.entries >= MOST_ENTRIES) {
                return false;
            }
            for (int n = LEAST_PARTS; n <= MOST_PARTS; n++) {
                for (int h = -1; h < n; h++) {
                    tryAll(n, h);
                }
            }
            return greatest > 0;
        }

        /** Most sequences come only once or twice; what can't gain enough is not reckoned in full. */
        private void tryAll(int n, int h) {
            for (int i = 0; i < layout.program.length; i++) {
                if (!layout.isSequence(i, n) || layout.mostGainOf(i, n, h) <= greatest) {
                    continue;
                }
                int gained = layout.gainOf(i, n, h);
                if (gained > greatest) {
                    greatest = gained;
                    first = i;
                    parts = n;
                    hole = h;
                }
            }
        }
    }

    /** A run of the program, as it was or squeezed. */
    private static final class Run {
        private final Program program;
        private final Layout layout;
        private final int[] cells = new int[MOST_CELLS];
        private final int[] told = new int[MOST_OUT];
        private final int[] heldLines = new int[MOST_HELD];
        private boolean exists;
        private boolean ended;
        private boolean squeezed;
        private boolean trapped;
        private int next;
        private int sum;
        private int steps;
        private int toldCount;
        private int mostHeld;
        private int heldCount;
        private int misses;
        private int decoded;

        Run(Program program, Layout layout) {
            this.program = program;
            this.layout = layout;
        }

        void begin(boolean asSqueezed, int mostLines) {
            exists = true;
            ended = false;
            squeezed = asSqueezed;
            trapped = false;
            next = 0;
            sum = 0;
            steps = 0;
            toldCount = 0;
            mostHeld = Math.min(mostLines, MOST_HELD);
            heldCount = 0;
            misses = 0;
            decoded = 0;
            for (int k = 0; k < MOST_CELLS; k++) {
                cells[k] = 0;
            }
        }

        void end() {
            exists = false;
        }

        /** Only a step that comes to the one out too many ends the run there, so it is looked for here. */
        int go(int n) {
            int before = steps;
            for (int k = 0; k < n && !ended; k++) {
                if (program.kinds[next] == TELL && toldCount == MOST_OUT) {
                    ended = true;
                } else {
                    takeStep();
                }
            }
            return steps - before;
        }

        private void takeStep() {
            if (squeezed) {
                useLine(layout.lineOf(next));
            }
            int kind = program.kinds[next];
            int value = program.values[next];
            steps++;
            next++;
            if (isSimple(kind)) {
                work(kind, value);
            } else {
                turn(kind, value);
            }
            if (!program.has(next)) {
                ended = true;
            }
        }

        private void work(int kind, int k) {
            switch (kind) {
                case PLUS: sum = (sum + k) & SUM_MASK; break;
                case TIMES: sum = (sum * k) & SUM_MASK; break;
                case FLIP: sum = sum ^ k; break;
                case STORE: cells[k] = sum; break;
                case LOAD: sum = cells[k]; break;
                case PLUS_CELL: sum = (sum + cells[k]) & SUM_MASK; break;
                default: tellOut((sum + k) & SUM_MASK); break;
            }
        }

        private void tellOut(int value) {
            if (toldCount < MOST_OUT) {
                told[toldCount] = value;
                toldCount++;
            }
        }

        private void turn(int kind, int target) {
            switch (kind) {
                case JUMP: next = target; break;
                case JUMP_AT_ZERO: next = sum == 0 ? target : next; break;
                case TAKE_ADDRESS: sum = addressOf(target); break;
                case JUMP_BY_SUM: jumpBySum(); break;
                default: ended = true; break;
            }
        }

        private int addressOf(int i) {
            return squeezed && program.has(i) ? layout.addresses[i] : i;
        }

        /** Code may go on only where some k of the program takes the address. */
        private void jumpBySum() {
            for (int i = 0; i < program.length; i++) {
                if (program.kinds[i] == TAKE_ADDRESS && addressOf(program.values[i]) == sum) {
                    next = program.values[i];
                    return;
                }
            }
            trapped = true;
            ended = true;
        }

        /** Held lines stand in the order of their use; the one used longest ago gives its place up. */
        private void useLine(int line) {
            int place = placeOf(line);
            if (place < 0) {
                misses++;
                decoded += layout.lineNibbles(line);
                heldCount = Math.min(heldCount + 1, mostHeld);
                place = heldCount - 1;
            }
            for (int k = place; k > 0; k--) {
                heldLines[k] = heldLines[k - 1];
            }
            heldLines[0] = line;
        }

        private int placeOf(int line) {
            for (int k = 0; k < heldCount; k++) {
                if (heldLines[k] == line) {
                    return k;
                }
            }
            return NONE;
        }

        int tell(int what) {
            switch (what) {
                case 0: return ended ? NONE : next;
                case 1: return sum;
                case 2: return steps;
                case 3: return toldCount;
                case 4: return trapped ? 1 : 0;
                case 5: return misses;
                case 6: return decoded;
                case 7: return heldCount;
                default: return squeezed ? 1 : 0;
            }
        }
    }
}

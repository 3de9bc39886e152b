/** What each promise asks, by runs of calls whose answers were reckoned by hand from the document. */
public final class PromiseTests {
    private static final int BAD = SqueezedCode.BAD;
    private static final int NO = SqueezedCode.NO;
    private static final int FULL = SqueezedCode.FULL;
    private static final int NONE = SqueezedCode.NONE;
    private static final int ZERO = SqueezedCode.ZERO;
    private static final int LOW = Integer.MIN_VALUE;
    private static final int HIGH = Integer.MAX_VALUE;

    private static int checks = 0;
    private static int wrong = 0;
    private static String promise = "";

    private static void due(String call, int got, int want) {
        checks++;
        if (got != want) {
            wrong++;
            System.out.println(promise + ": " + call + " answered " + got + ", due is " + want);
        }
    }

    /** The answers due for a row of calls, in their order. */
    private static void row(String call, int[] got, int... want) {
        due(call + ", how many", got.length, want.length);
        for (int k = 0; k < got.length && k < want.length; k++) {
            due(call + ", answer " + k, got[k], want[k]);
        }
    }

    private static int[] each(int... answers) {
        return answers;
    }

    private static void put(SqueezedCode x, String text) {
        for (int k = 0; k < text.length(); k++) {
            x.write(text.charAt(k));
        }
    }

    private static SqueezedCode laid(String text) {
        SqueezedCode x = new SqueezedCode();
        put(x, text);
        x.lay();
        return x;
    }

    private static SqueezedCode ran(String text, int kind) {
        SqueezedCode x = laid(text);
        x.start(kind);
        x.step(400);
        return x;
    }

    private static int faultOf(String text) {
        SqueezedCode x = new SqueezedCode();
        put(x, text);
        return x.fault();
    }

    public static void main(String[] arguments) {
        newObject();
        text();
        faults();
        lay();
        code();
        add();
        drop();
        gain();
        choose();
        choiceAmongEquals();
        entryAndPart();
        wideAndHold();
        undo();
        size();
        bestCover();
        nibbles();
        addresses();
        linesAndSeek();
        start();
        simpleInstructions();
        jumpsAndEnds();
        outsAndTheThirteenth();
        now();
        heldLines();
        cellsAndOuts();
        changesEndTheRun();
        counts();
        System.out.println(checks + " answers looked at, " + wrong + " not as due");
        if (wrong != 0) {
            System.exit(1);
        }
    }

    private static void newObject() {
        promise = "promise 1";
        SqueezedCode x = new SqueezedCode();
        row("count", each(x.count(0), x.count(1), x.count(2), x.count(3), x.count(4), x.count(5),
                x.count(6), x.count(7), x.count(8)), 27, 0, 8, 2, 4, 3, 0, 0, 0);
        String first = "a5s0a3m2s1w0a5s0a7m2s1w1k14qa1a5s0a9m2s1w2l0z26x1s0j16h";
        due("code(0, 0)", x.code(0, 0), 'a');
        due("code(12, 0)", x.code(12, 0), 'k');
        due("code(26, 0)", x.code(26, 0), 'h');
        SqueezedCode y = laid(first);
        for (int i = 0; i < 27; i++) {
            due("letter " + i, x.code(i, 0), y.code(i, 0));
            due("value " + i, x.code(i, 1), y.code(i, 1));
        }
        due("fault", x.fault(), NONE);
        due("undo", x.undo(), NO);
        due("lay: the text is empty", x.lay(), NO);
        due("wipe", x.wipe(), 0);
    }

    private static void text() {
        promise = "promises 2, 3";
        SqueezedCode x = new SqueezedCode();
        row("write", each(x.write(31), x.write(127), x.write(LOW), x.write(HIGH), x.write(-1)),
                BAD, BAD, BAD, BAD, BAD);
        due("write(32)", x.write(32), 1);
        due("write(126)", x.write(126), 2);
        due("wipe", x.wipe(), 2);
        due("wipe", x.wipe(), 0);
        for (int k = 1; k <= 200; k++) {
            due("write " + k, x.write('a'), k);
        }
        due("write: full", x.write('a'), FULL);
        due("write: bad ahead of full", x.write(0), BAD);
        due("count(7)", x.count(7), 200);
        due("wipe", x.wipe(), 200);
        due("write after wipe", x.write('q'), 1);
    }

    private static void faults() {
        promise = "promise 4";
        row("no fault", each(faultOf(""), faultOf("q"), faultOf("a0"), faultOf("m9x1s2l3p4w5qhj00z01k08")),
                NONE, NONE, NONE, NONE);
        row("figures missing", each(faultOf("a"), faultOf("a1b2"), faultOf("a1j0"), faultOf("hjx0"),
                faultOf("qz0x"), faultOf("w:"), faultOf("w/"), faultOf("k")), 0, 2, 2, 1, 1, 0, 0, 0);
        row("other signs", each(faultOf(" "), faultOf("a1 a1"), faultOf("A1"), faultOf("h1"), faultOf("a11")),
                0, 2, 0, 1, 2);
        row("lost targets", each(faultOf("j01"), faultOf("hhk03z04"), faultOf("hz02"), faultOf("a1k99j50")),
                0, 5, 1, 2);
        due("a wrong instruction ahead of a lost target", faultOf("j50a1?"), 5);
        due("48 instructions", faultOf("h".repeat(48)), NONE);
        due("a 49th", faultOf("h".repeat(49)), 48);
        due("a 49th that is no instruction", faultOf("h".repeat(48) + "?"), 48);
        due("a 49th ahead of a lost target", faultOf("j48" + "h".repeat(48)), 50);
        due("the last target", faultOf("j47" + "h".repeat(47)), NONE);
        due("a target just too high", faultOf("hj48" + "h".repeat(46)), 1);
        due("a long text", faultOf("a1".repeat(100)), 96);
    }

    private static void lay() {
        promise = "promise 5";
        SqueezedCode x = new SqueezedCode();
        due("lay: empty", x.lay(), NO);
        put(x, "a1a2?");
        x.add(0, 2, -1);
        x.start(0);
        due("lay: fault", x.lay(), NO);
        row("nothing changes", each(x.count(0), x.count(1), x.count(6), x.count(8), x.count(7)), 27, 1, 1, 1, 5);
        x.wipe();
        put(x, "a1a2h");
        x.wide(4);
        x.hold(4);
        x.start(1);
        due("lay", x.lay(), 3);
        row("laid", each(x.count(0), x.count(1), x.count(2), x.count(3), x.count(4), x.count(5),
                x.count(6), x.count(7), x.count(8)), 3, 0, 4, 4, 1, 0, 0, 5, 0);
        due("undo", x.undo(), NO);
        due("lay again: the text stays", x.lay(), 3);
        due("size", x.size(0), 5);
        x.wipe();
        due("lay: wiped", x.lay(), NO);
        due("count(0)", x.count(0), 3);
        put(x, "j01q");
        due("lay", x.lay(), 2);
        row("targets", each(x.code(0, 2), x.code(1, 2), x.count(5)), 0, 1, 1);
    }

    private static void code() {
        promise = "promise 6";
        SqueezedCode x = laid("a1m2x3s4l5p6w7j08z09k10qhhh");
        String letters = "amxslpwjzkqh";
        for (int i = 0; i < 12; i++) {
            due("code(" + i + ", 0)", x.code(i, 0), letters.charAt(i));
        }
        for (int i = 0; i < 10; i++) {
            due("code(" + i + ", 1)", x.code(i, 1), i + 1);
        }
        row("no value", each(x.code(10, 1), x.code(11, 1)), NONE, NONE);
        for (int i = 0; i < 14; i++) {
            due("code(" + i + ", 2)", x.code(i, 2), i >= 8 && i <= 10 ? 1 : 0);
        }
        row("by itself", each(x.code(1, 3), x.code(1, 4)), NONE, NONE);
        x.add(1, 3, 1);
        row("in a reference", each(x.code(0, 3), x.code(1, 3), x.code(2, 3), x.code(3, 3), x.code(4, 3)),
                NONE, 0, 0, 0, NONE);
        row("its place", each(x.code(0, 4), x.code(1, 4), x.code(2, 4), x.code(3, 4), x.code(4, 4)),
                NONE, 0, 1, 2, NONE);
        row("bad", each(x.code(-1, 0), x.code(14, 0), x.code(0, -1), x.code(0, 5), x.code(LOW, 0),
                x.code(HIGH, 0)), BAD, BAD, BAD, BAD, BAD, BAD);
    }

    private static void add() {
        promise = "promise 7";
        SqueezedCode x = laid("a1a2a3a4a5a6a7a8a9qa1a2j11a1a2a3");
        row("bad", each(x.add(-1, 2, -1), x.add(16, 2, -1), x.add(0, 1, -1), x.add(0, 5, -1), x.add(0, 2, -2),
                x.add(0, 2, 2), x.add(0, 4, 4), x.add(LOW, 2, 0), x.add(HIGH, 4, 0), x.add(0, HIGH, 0),
                x.add(0, 2, HIGH)), BAD, BAD, BAD, BAD, BAD, BAD, BAD, BAD, BAD, BAD, BAD);
        row("no sequence", each(x.add(7, 2, -1), x.add(5, 4, 3), x.add(8, 2, -1), x.add(9, 2, -1),
                x.add(10, 2, -1), x.add(11, 2, -1), x.add(15, 2, -1), x.add(13, 4, 0)),
                NO, NO, NO, NO, NO, NO, NO, NO);
        due("add", x.add(0, 2, -1), 0);
        row("alike", each(x.add(0, 2, -1), x.add(13, 2, -1)), NO, NO);
        row("not alike", each(x.add(0, 2, 0), x.add(0, 2, 1)), 1, 2);
        due("alike but at its hole", x.add(13, 2, 0), NO);
        due("alike but at its hole, with another K there", x.add(1, 2, 1), 3);
        due("not alike: the K behind the hole differs", x.add(1, 2, 0), 4);
        due("longer", x.add(0, 3, 0), 5);
        due("longest", x.add(4, 4, 3), 6);
        due("the eighth", x.add(13, 3, -1), 7);
        row("bad, no, full", each(x.add(16, 2, 0), x.add(0, 2, -1), x.add(7, 2, 0), x.add(2, 3, 0)),
                BAD, NO, NO, FULL);
        due("count(1)", x.count(1), 8);
        SqueezedCode y = laid("ha1a2j01");
        due("the first one a target", y.add(1, 2, -1), 0);
    }

    private static void drop() {
        promise = "promise 8";
        SqueezedCode x = new SqueezedCode();
        due("drop", x.drop(0), BAD);
        x.add(0, 2, -1);
        x.add(0, 3, 1);
        x.add(8, 4, 3);
        row("bad", each(x.drop(-1), x.drop(3), x.drop(LOW), x.drop(HIGH)), BAD, BAD, BAD, BAD);
        due("drop(1)", x.drop(1), 2);
        row("one lower", each(x.entry(0, 0), x.entry(1, 0), x.entry(1, 1), x.entry(2, 0)), 2, 4, 3, BAD);
        row("its letters", each(x.part(1, 0, 0), x.part(1, 0, 1), x.part(1, 3, 1)), 'a', 7, NONE);
        due("drop(1)", x.drop(1), 1);
        due("drop(0)", x.drop(0), 0);
        due("undo", x.undo(), 5);
        due("entry", x.entry(0, 0), 2);
    }

    private static void gain() {
        promise = "promise 9";
        SqueezedCode x = laid("a1a2a1a2a1a2a1a2");
        row("gain", each(x.gain(0, 2, -1), x.gain(0, 4, -1), x.gain(0, 2, 0), x.gain(0, 4, 1),
                x.gain(1, 2, -1), x.gain(0, 3, -1)),
                ZERO + 3, ZERO + 3, ZERO - 1, ZERO + 1, ZERO + 1, ZERO + 1);
        row("bad", each(x.gain(-1, 2, -1), x.gain(8, 2, -1), x.gain(0, 1, -1), x.gain(0, 5, -1),
                x.gain(0, 3, 3), x.gain(0, 3, -2)), BAD, BAD, BAD, BAD, BAD, BAD);
        due("none", x.gain(7, 2, -1), NO);
        due("gain changes nothing", x.count(1) + x.count(6), 0);
        due("size", x.size(3), 19);
        x.add(0, 2, -1);
        due("alike", x.gain(2, 2, -1), NO);
        due("beside what is there", x.gain(0, 4, -1), ZERO + 4 - 9);
        due("no use: all the rest is longer by it", x.gain(0, 3, 0), ZERO - 7);
        for (int h = 0; h < 2; h++) {
            x.add(0, 2, h);
            x.add(1, 2, h);
        }
        x.add(1, 2, -1);
        x.add(0, 3, -1);
        x.add(0, 3, 0);
        row("bad, no, full", each(x.gain(0, 9, 0), x.gain(0, 2, 0), x.gain(0, 4, 0)), BAD, NO, FULL);
    }

    private static void choose() {
        promise = "promise 10";
        SqueezedCode x = new SqueezedCode();
        row("bad", each(x.choose(0), x.choose(9), x.choose(-1), x.choose(LOW), x.choose(HIGH)),
                BAD, BAD, BAD, BAD, BAD);
        due("choose(8)", x.choose(8), 1);
        due("one change", x.count(6), 1);
        x.start(0);
        due("choose: none", x.choose(1), NO);
        row("nothing changes", each(x.count(6), x.count(8)), 1, 1);
        SqueezedCode y = laid("a1a2a1a2a1a2a1a2x1x2x1x2x1x2x1x2w1w2w1w2w1w2w1w2");
        due("choose(2)", y.choose(2), 2);
        due("one change", y.count(6), 1);
        row("the lowest first", each(y.part(0, 0, 0), y.part(1, 0, 0)), 'a', 'x');
        due("choose(8)", y.choose(8), 1);
        due("part", y.part(2, 0, 0), 'w');
        due("undo", y.undo(), 1);
        due("count(1)", y.count(1), 2);
        due("undo", y.undo(), 0);
        due("count(1)", y.count(1), 0);
        SqueezedCode v = laid("w1".repeat(16));
        due("choose(1)", v.choose(1), 1);
        row("four letters", each(v.entry(0, 0), v.entry(0, 1), v.entry(0, 2), v.entry(0, 3), v.size(0)),
                4, NONE, 4, 10, 8);
        SqueezedCode z = laid("a1a2a1a2a1a2a1a2qw0w1w2w3w4w5w6");
        for (int i = 9; i < 15; i++) {
            z.add(i, 2, -1);
        }
        z.add(10, 3, -1);
        due("seven entries", z.count(1), 7);
        due("only one more", z.choose(8), 1);
        due("eight entries", z.count(1), 8);
        due("a ninth", z.choose(1), NO);
    }

    private static void choiceAmongEquals() {
        promise = "promise 10, equals";
        SqueezedCode x = laid("a1a2a1a2a1a2a1a2");
        row("equal gains", each(x.gain(0, 2, -1), x.gain(0, 4, -1)), ZERO + 3, ZERO + 3);
        x.choose(1);
        row("the shortest", each(x.entry(0, 0), x.entry(0, 1), x.part(0, 0, 1)), 2, NONE, 1);
        String sixWithFirstHole = "a0s1qqa1s1qqa2s1qqa3s1qqa4s1qqa5s1qq";
        x = laid("m1m2m3qm1m2m3q" + sixWithFirstHole);
        row("equal gains", each(x.gain(0, 3, -1), x.gain(8, 2, 0)), ZERO + 1, ZERO + 1);
        x.choose(1);
        row("the shortest though it has a hole", each(x.entry(0, 0), x.entry(0, 1)), 2, 0);
        x = laid(sixWithFirstHole + "a6s1qqa7s1qq" + "m1x2qq".repeat(4));
        row("equal gains", each(x.gain(0, 2, 0), x.gain(32, 2, -1)), ZERO + 3, ZERO + 3);
        x.choose(1);
        row("no hole", each(x.entry(0, 1), x.part(0, 0, 0)), NONE, 'm');
        x = laid("m1x0qqm1x1qqm1x2qqm1x3qqm1x4qqm1x5qq" + sixWithFirstHole);
        row("equal gains", each(x.gain(0, 2, 1), x.gain(24, 2, 0)), ZERO + 1, ZERO + 1);
        x.choose(1);
        row("the first hole", each(x.entry(0, 1), x.part(0, 0, 0)), 0, 'a');
        x = laid("m1x2qq".repeat(4) + "a1s2qq".repeat(4));
        row("equal gains", each(x.gain(0, 2, -1), x.gain(16, 2, -1)), ZERO + 3, ZERO + 3);
        x.choose(1);
        due("the lowest", x.part(0, 0, 0), 'm');
    }

    private static void entryAndPart() {
        promise = "promises 11, 12";
        SqueezedCode x = laid("a1a1a1a1a1qm1m2m3");
        x.add(0, 2, -1);
        x.add(6, 2, 1);
        row("entry 0", each(x.entry(0, 0), x.entry(0, 1), x.entry(0, 2), x.entry(0, 3)), 2, NONE, 2, 4);
        row("entry 1", each(x.entry(1, 0), x.entry(1, 1), x.entry(1, 2), x.entry(1, 3)), 2, 1, 1, 1);
        row("bad", each(x.entry(2, 0), x.entry(-1, 0), x.entry(0, -1), x.entry(0, 4), x.entry(HIGH, 0)),
                BAD, BAD, BAD, BAD, BAD);
        row("part", each(x.part(1, 0, 0), x.part(1, 0, 1), x.part(1, 1, 0), x.part(1, 1, 1)),
                'm', 1, 'm', NONE);
        row("not so many", each(x.part(1, 2, 0), x.part(1, 2, 1), x.part(1, HIGH, 0)), NONE, NONE, NONE);
        row("bad part", each(x.part(2, 0, 0), x.part(-1, 0, 0), x.part(0, -1, 0), x.part(0, 0, 2),
                x.part(0, 0, -1), x.part(0, 9, 2), x.part(2, 9, 0)), BAD, BAD, BAD, BAD, BAD, BAD, BAD);
        x.wide(4);
        row("fewer by narrow lines", each(x.entry(0, 2), x.entry(0, 3)), 2, 3);
        SqueezedCode y = new SqueezedCode();
        y.add(8, 3, 0);
        row("the hole matches any K, but not the other letters", each(y.entry(0, 3), y.entry(0, 2)), 3, 3);
    }

    private static void wideAndHold() {
        promise = "promises 13, 14";
        SqueezedCode x = new SqueezedCode();
        row("bad", each(x.wide(0), x.wide(-4), x.wide(5), x.wide(32), x.wide(LOW), x.wide(HIGH)),
                BAD, BAD, BAD, BAD, BAD, BAD);
        due("wide(8)", x.wide(8), NO);
        due("changes", x.count(6), 0);
        x.add(0, 4, -1);
        x.add(2, 4, -1);
        row("wide", each(x.wide(4), x.wide(4), x.wide(16), x.wide(8)), 8, NO, 4, 16);
        due("entries stay", x.count(1), 2);
        due("changes", x.count(6), 5);
        x.wide(4);
        row("lines of 4", each(x.count(4), x.entry(0, 3), x.entry(1, 3), x.size(2)), 7, 1, 0, 21);
        row("bad", each(x.hold(0), x.hold(5), x.hold(-1), x.hold(LOW), x.hold(HIGH)), BAD, BAD, BAD, BAD, BAD);
        row("hold", each(x.hold(2), x.hold(1), x.hold(4), x.hold(4), x.hold(3)), NO, 2, 1, NO, 4);
        due("count(3)", x.count(3), 3);
    }

    private static void undo() {
        promise = "promise 15";
        SqueezedCode x = new SqueezedCode();
        due("undo", x.undo(), NO);
        x.add(0, 2, -1);
        x.wide(16);
        x.hold(1);
        x.drop(0);
        row("undo", each(x.undo(), x.count(1), x.entry(0, 0)), 3, 1, 2);
        row("undo", each(x.undo(), x.count(3), x.count(2)), 2, 2, 16);
        row("undo", each(x.undo(), x.count(2), x.count(4)), 1, 8, 4);
        row("undo", each(x.undo(), x.count(1)), 0, 0);
        due("undo", x.undo(), NO);
        for (int k = 0; k < 4; k++) {
            x.hold(1);
            x.hold(2);
        }
        due("the last six", x.count(6), 6);
        x.start(0);
        due("undo", x.undo(), 5);
        due("no run", x.count(8), 0);
        x.start(0);
        for (int k = 4; k >= 0; k--) {
            due("undo", x.undo(), k);
        }
        x.start(0);
        due("no more", x.undo(), NO);
        due("the run stays", x.count(8), 1);
        due("C as ahead of the last six", x.count(3), 2);
        x.add(2, 3, 0);
        x.add(2, 3, 1);
        x.drop(0);
        x.undo();
        row("the dropped one in its place", each(x.entry(0, 1), x.entry(1, 1)), 0, 1);
    }

    private static void size() {
        promise = "promise 16";
        SqueezedCode x = laid("a1a2a3qa1a2a4j00h");
        row("size", each(x.size(0), x.size(1), x.size(2), x.size(3), x.size(4), x.size(5)), 18, 0, 6, 24, 18, 0);
        x.add(0, 3, 2);
        row("size", each(x.size(0), x.size(1), x.size(2), x.size(3), x.size(4), x.size(5)), 12, 7, 6, 25, 18, 2);
        x.add(0, 2, -1);
        row("size", each(x.size(0), x.size(1), x.size(2), x.size(3), x.size(4), x.size(5)), 12, 12, 6, 30, 18, 2);
        row("bad", each(x.size(-1), x.size(6), x.size(LOW), x.size(HIGH)), BAD, BAD, BAD, BAD);
        due("one instruction", laid("h").size(3), 4);
    }

    private static void bestCover() {
        promise = "promise 16, best";
        SqueezedCode x = laid("a1a2a3");
        x.add(0, 2, -1);
        x.add(1, 2, -1);
        // both references save as much; the cover whose lowest instruction is by itself is best
        row("owners", each(x.code(0, 3), x.code(1, 3), x.code(2, 3)), NONE, 1, 1);
        SqueezedCode y = laid("a1a2qa3a2");
        y.add(0, 2, 0);
        y.add(0, 2, 1);
        row("the lowest entry", each(y.code(0, 3), y.code(3, 3)), 0, 0);
        y.add(0, 2, -1);
        row("the shorter reference", each(y.code(0, 3), y.code(3, 3)), 2, 0);
        SqueezedCode z = laid("a1a2a3a4");
        z.add(0, 4, 0);
        z.add(0, 3, -1);
        z.add(1, 3, -1);
        row("a whole reference with a hole is shorter", each(z.code(0, 3), z.size(0)), 0, 3);
        z.add(0, 2, -1);
        z.add(2, 2, -1);
        row("two without are not", each(z.code(0, 3), z.size(0)), 0, 3);
    }

    private static void nibbles() {
        promise = "promise 17";
        SqueezedCode x = laid("a9m8x7s6l5p4w3j08z09k10qh");
        int[] all = {0, 9, 1, 8, 2, 7, 3, 6, 4, 5, 5, 4, 6, 3, 7, 0, 1, 2, 8, 0, 1, 6, 9, 0, 1, 10, 10, 11};
        for (int k = 0; k < all.length; k++) {
            due("nibble(" + k + ")", x.nibble(k), all[k]);
        }
        row("edges", each(x.nibble(28), x.nibble(HIGH), x.nibble(-1), x.nibble(LOW)), NONE, NONE, BAD, BAD);
        x.add(0, 2, -1);
        x.add(2, 3, 1);
        int[] squeezed = {15, 0, 15, 1, 6, 5, 4, 6, 3, 7, 0, 0, 13, 8, 0, 1, 1, 9, 0, 1, 5, 10, 11};
        for (int k = 0; k < squeezed.length; k++) {
            due("squeezed nibble(" + k + ")", x.nibble(k), squeezed[k]);
        }
        due("nibble(23)", x.nibble(23), NONE);
        SqueezedCode y = laid("a7a2h");
        y.add(0, 2, 0);
        row("the first K in the hole", each(y.nibble(0), y.nibble(1), y.nibble(2), y.nibble(3)), 15, 0, 7, 11);
    }

    private static void addresses() {
        promise = "promises 18, 19";
        SqueezedCode x = laid("qj00a1a2a3h");
        row("address", each(x.address(0), x.address(1), x.address(2), x.address(5)), 0, 1, 5, 11);
        x.add(2, 3, -1);
        row("address", each(x.address(2), x.address(3), x.address(4), x.address(5)), 5, NONE, NONE, 7);
        row("bad", each(x.address(-1), x.address(6), x.address(LOW), x.address(HIGH)), BAD, BAD, BAD, BAD);
        row("at", each(x.at(0), x.at(1), x.at(2), x.at(5), x.at(6), x.at(7), x.at(8), x.at(HIGH)),
                0, 1, NONE, 2, NONE, 5, NONE, NONE);
        row("bad", each(x.at(-1), x.at(NONE), x.at(LOW)), BAD, BAD, BAD);
    }

    private static void linesAndSeek() {
        promise = "promises 20, 21";
        SqueezedCode x = laid("a1a2a3qa1a2h");
        x.wide(4);
        x.add(0, 2, -1);
        row("line 0", each(x.line(0, 0), x.line(0, 1), x.line(0, 2)), 0, 5, 1);
        row("line 1", each(x.line(1, 0), x.line(1, 1), x.line(1, 2)), 5, 3, 1);
        row("bad", each(x.line(2, 0), x.line(-1, 0), x.line(0, 3), x.line(0, -1), x.line(HIGH, 0),
                x.line(LOW, 0)), BAD, BAD, BAD, BAD, BAD, BAD);
        row("seek", each(x.seek(0), x.seek(1), x.seek(2), x.seek(3), x.seek(4), x.seek(5), x.seek(6)),
                2, 2, 4, 5, 2, 2, 3);
        row("bad", each(x.seek(-1), x.seek(7), x.seek(LOW), x.seek(HIGH)), BAD, BAD, BAD, BAD);
        x.wide(16);
        row("one line", each(x.line(0, 1), x.line(0, 2), x.line(1, 0), x.seek(6)), 8, 2, BAD, 8);
        SqueezedCode y = laid("h".repeat(48));
        y.wide(4);
        row("twelve lines", each(y.count(4), y.line(11, 0), y.line(11, 1), y.line(12, 0)), 12, 44, 4, BAD);
    }

    private static void start() {
        promise = "promise 22";
        SqueezedCode x = new SqueezedCode();
        row("bad", each(x.start(-1), x.start(2), x.start(LOW), x.start(HIGH)), BAD, BAD, BAD, BAD);
        due("no run", x.count(8), 0);
        due("start", x.start(1), 0);
        x.step(50);
        due("bad", x.start(2), BAD);
        due("the run stays", x.now(2), 50);
        due("start", x.start(0), 0);
        row("anew", each(x.now(0), x.now(1), x.now(2), x.now(3), x.now(4), x.now(5), x.now(6), x.now(7),
                x.now(8), x.cell(0), x.cell(1)), 0, 0, 0, 0, 0, 0, 0, 0, 0, 0, 0);
    }

    private static int sumBy(String text) {
        return ran(text, 0).now(1);
    }

    private static void simpleInstructions() {
        promise = "promise 23, simple";
        row("sums", each(sumBy("a7"), sumBy("a7m6"), sumBy("a7x2"), sumBy("a5x9x9"), sumBy("a9m0"), sumBy("a5s3a4")),
                7, 42, 5, 5, 0, 9);
        row("cells", each(sumBy("a5s3a4l3"), sumBy("a5s3a4p3"), sumBy("a5l9")), 5, 14, 0);
        String big = "a8m8m8m8m8m2";
        row("modulo", each(sumBy(big), sumBy(big + "s0p0"), sumBy(big + "x1"), sumBy("a8m8m8m8m8s0p0a7m2")),
                0, 0, 1, 14);
        // 8 to the fifth is 32768, so twice that is 65536
        row("modulo", each(sumBy("a8m8m8m8m8"), sumBy("a8m8m8m8m8s0p0"), sumBy("a8m8m8m8m8m3"),
                sumBy("a8m8m8m8m8s0x7a1p0")), 32768, 0, 32768, 8);
        SqueezedCode x = ran("a8m8m8m8m8s0x9s1w9l0p1w0", 0);
        row("outs", each(x.out(0), x.out(1), x.out(2)), 32786, 9, NONE);
    }

    private static void jumpsAndEnds() {
        promise = "promise 23, jumps";
        SqueezedCode x = laid("z02a9z05a1h");
        due("fault ahead of lay: the first program stays", x.count(0), 27);
        x = laid("z02a9z04a1h");
        x.start(0);
        row("jump at 0", each(x.step(1), x.now(0), x.step(1), x.now(0)), 1, 2, 1, 4);
        row("halt", each(x.step(1), x.now(0), x.now(2), x.now(4), x.step(1)), 1, NONE, 3, 0, NO);
        x = ran("a3hw1", 1);
        row("halt in the midst", each(x.now(0), x.now(1), x.now(2), x.now(3), x.step(1)), NONE, 3, 2, 0, NO);
        x = laid("a1z00j03w0");
        x.start(0);
        row("no jump", each(x.step(2), x.now(0), x.step(1), x.now(0)), 2, 2, 1, 3);
        row("behind the last", each(x.step(1), x.now(0), x.now(4), x.step(1)), 1, NONE, 0, NO);
        row("steps", each(x.now(2), x.out(0)), 4, 1);
        x = laid("j00");
        x.start(1);
        row("n steps", each(x.step(400), x.step(1), x.now(2), x.now(0), x.now(5)), 400, 1, 401, 0, 1);
        row("bad", each(x.step(0), x.step(401), x.step(-1), x.step(LOW), x.step(HIGH)), BAD, BAD, BAD, BAD, BAD);
        due("no run", new SqueezedCode().step(1), NO);
        due("bad ahead of no", new SqueezedCode().step(0), BAD);
        addressesInRuns();
    }

    private static void addressesInRuns() {
        promise = "promise 23, addresses";
        row("plain", each(ran("k03qa1h", 0).now(1), ran("k03qa1h", 0).now(2)), 3, 3);
        row("squeezed", each(ran("k03qa1h", 1).now(1), ran("k03qa1h", 1).now(2)), 7, 3);
        SqueezedCode trapped = ran("a2qa1h", 0);
        row("no k", each(trapped.now(4), trapped.now(2), trapped.now(0), trapped.step(1)), 1, 2, NONE, NO);
        row("a target of a jump alone", each(ran("a3qj03h", 0).now(4), ran("z01a3qh", 0).now(4)), 1, 1);
        row("another k", each(ran("a4qk03hw1k04", 0).now(4), ran("a4qk03hw1k04", 0).out(0)), 0, 5);
        row("its address now", each(ran("a4qk03hw1k04", 1).now(4), ran("k02a1qk02", 1).now(4)), 1, 1);
        SqueezedCode x = laid("a1a2k06qa1a2w0");
        x.add(0, 2, -1);
        x.start(1);
        x.step(400);
        row("squeezed by a table", each(x.out(0), x.now(2), x.now(4), x.now(6)), 9, 5, 0, 11);
    }

    private static void outsAndTheThirteenth() {
        promise = "promise 23, the 13th out";
        SqueezedCode x = laid("w1".repeat(14));
        x.start(1);
        row("steps", each(x.step(12), x.now(3), x.now(0), x.now(2)), 12, 12, 12, 12);
        // the run ends only when a step comes to the 13th, and that one is not done
        row("the 13th", each(x.step(5), x.now(0), x.now(2), x.now(3), x.now(4)), 0, NONE, 12, 12, 0);
        due("ended", x.step(1), NO);
        due("there is a run still", x.count(8), 1);
        x.start(0);
        row("at once", each(x.step(13), x.now(0), x.step(1)), 12, NONE, NO);
        SqueezedCode y = laid("w1".repeat(12));
        y.start(0);
        row("twelve", each(y.step(12), y.now(0), y.step(1)), 12, NONE, NO);
        SqueezedCode z = laid("w1".repeat(12) + "hhhhw1");
        z.wide(4);
        z.start(1);
        z.step(12);
        row("misses", each(z.now(5), z.step(1), z.now(5), z.now(2)), 3, 1, 4, 13);
        SqueezedCode v = laid("w1".repeat(16));
        v.wide(4);
        v.start(1);
        v.step(400);
        row("no miss for what is not done", each(v.now(5), v.now(6), v.held(0)), 3, 24, 2);
    }

    private static void now() {
        promise = "promise 24";
        SqueezedCode x = new SqueezedCode();
        row("no run", each(x.now(0), x.now(8), x.now(-1), x.now(9)), NO, NO, BAD, BAD);
        x.start(1);
        row("bad", each(x.now(-1), x.now(9), x.now(LOW), x.now(HIGH)), BAD, BAD, BAD, BAD);
        row("at first", each(x.now(0), x.now(5), x.now(6), x.now(7), x.now(8)), 0, 0, 0, 0, 1);
        x.step(9);
        row("after 9", each(x.now(0), x.now(1), x.now(2), x.now(3), x.now(4), x.now(5), x.now(6), x.now(7),
                x.now(8)), 9, 28, 9, 1, 0, 2, 33, 2, 1);
        x.start(0);
        x.step(9);
        row("plain", each(x.now(1), x.now(5), x.now(6), x.now(7), x.now(8), x.held(0)), 28, 0, 0, 0, 0, NONE);
    }

    private static void heldLines() {
        promise = "promise 25";
        SqueezedCode x = laid("j04hhhj08hhhj04hhh");
        due("no run", x.held(0), NO);
        row("bad", each(x.held(-1), x.held(LOW)), BAD, BAD);
        x.wide(4);
        x.start(1);
        due("none yet", x.held(0), NONE);
        x.step(2);
        row("last first", each(x.held(0), x.held(1), x.held(2), x.held(HIGH)), 1, 0, NONE, NONE);
        x.step(1);
        row("the one used longest ago", each(x.held(0), x.held(1), x.held(2), x.now(5)), 2, 1, NONE, 3);
        x.step(1);
        row("used again", each(x.held(0), x.held(1), x.now(5), x.now(6)), 1, 2, 3, 21);
        x.hold(1);
        x.start(1);
        x.step(4);
        row("one line", each(x.held(0), x.held(1), x.now(5), x.now(7)), 1, NONE, 4, 1);
        x.hold(4);
        x.start(1);
        x.step(4);
        row("four lines", each(x.held(0), x.held(1), x.held(2), x.held(3), x.now(5)), 1, 2, 0, NONE, 3);
    }

    private static void cellsAndOuts() {
        promise = "promises 26, 27";
        SqueezedCode x = laid("a1s0a1s9w0w1h");
        row("no run", each(x.cell(0), x.cell(9), x.cell(10), x.cell(-1), x.out(0), x.out(-1)),
                NO, NO, BAD, BAD, NO, BAD);
        x.start(0);
        row("at first", each(x.cell(0), x.out(0)), 0, NONE);
        x.step(400);
        row("cells", each(x.cell(0), x.cell(1), x.cell(9), x.cell(10), x.cell(LOW), x.cell(HIGH)),
                1, 0, 2, BAD, BAD, BAD);
        row("outs", each(x.out(0), x.out(1), x.out(2), x.out(HIGH), x.out(-1), x.out(LOW)),
                2, 3, NONE, NONE, BAD, BAD);
    }

    private static void changesEndTheRun() {
        promise = "promises 7 to 15, 23";
        SqueezedCode x = new SqueezedCode();
        x.start(0);
        row("nothing changes", each(x.add(7, 2, 0), x.drop(0), x.gain(0, 2, 0), x.choose(0), x.wide(8), x.hold(2),
                x.undo(), x.lay(), x.write('a'), x.wipe(), x.count(8)),
                NO, BAD, ZERO + 58 - 56 - 5, BAD, NO, NO, NO, NO, 1, 1, 1);
        x.add(0, 2, -1);
        due("add", x.count(8), 0);
        x.start(0);
        x.drop(0);
        due("drop", x.count(8), 0);
        x.start(0);
        x.choose(1);
        due("choose", x.count(8), 0);
        x.start(0);
        x.wide(4);
        due("wide", x.count(8), 0);
        x.start(0);
        x.hold(4);
        due("hold", x.count(8), 0);
        x.start(0);
        x.undo();
        due("undo", x.count(8), 0);
        x.start(0);
        put(x, "h");
        x.lay();
        due("lay", x.count(8), 0);
        row("no run", each(x.step(1), x.now(2), x.held(0), x.cell(0), x.out(0)), NO, NO, NO, NO, NO);
    }

    private static void counts() {
        promise = "promise 28";
        SqueezedCode x = laid("j02z02a1a2k00");
        row("count", each(x.count(0), x.count(1), x.count(2), x.count(3), x.count(4), x.count(5), x.count(6),
                x.count(7), x.count(8)), 5, 0, 8, 2, 1, 2, 0, 13, 0);
        x.add(2, 2, 0);
        x.wide(4);
        x.hold(3);
        x.start(0);
        row("count", each(x.count(0), x.count(1), x.count(2), x.count(3), x.count(4), x.count(5), x.count(6),
                x.count(7), x.count(8)), 5, 1, 4, 3, 2, 2, 3, 13, 1);
        row("bad", each(x.count(-1), x.count(9), x.count(LOW), x.count(HIGH)), BAD, BAD, BAD, BAD);
    }
}

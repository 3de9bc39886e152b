/**
 * Each sentence of the document that names a boundary case, in the document's order: too small, too
 * large, empty, full, a wrap-around, a refused call. What is due was reckoned by hand from the sentence.
 */
public final class BoundaryTests {
    private static final int BAD = -1, NO = -2, FULL = -3, NONE = -4, ZERO = 100000;
    private static final int LOW = Integer.MIN_VALUE, HIGH = Integer.MAX_VALUE;
    /** Nine instructions behind which SUM is 65535. */
    private static final String TOP = "a9a8s0m8m8m4p0m5m3";

    private static String sentence = "";
    private static int answers = 0;
    private static int sentences = 0;
    private static int wrong = 0;

    public static void main(String[] arguments) {
        face();
        programs();
        texts();
        simpleOnes();
        jumps();
        faults();
        laid();
        targetsAndLines();
        sequences();
        entriesAndMatches();
        alike();
        nibbles();
        bestCovers();
        sizes();
        gains();
        chosen();
        choseSeveral();
        runsBegin();
        runsGoOnAtQ();
        runsEnd();
        thirteenthOut();
        heldLines();
        changes();
        undone();
        askedOfCode();
        askedOfTheTable();
        askedOfWhatItComesTo();
        askedOfRuns();
        ordersOfRefusals();
        endSentence();
        System.out.println(sentences + " sentences, " + answers + " answers looked at, " + wrong + " not as due");
        if (wrong != 0) {
            System.exit(1);
        }
    }

    // ---- how answers are looked at

    private static int answersAtLastSentence = 0;

    /** What follows is a test of these words of the document. */
    private static void says(String words) {
        endSentence();
        sentences++;
        answersAtLastSentence = answers;
        sentence = words;
    }

    private static void endSentence() {
        if (sentences > 0 && answers == answersAtLastSentence) {
            wrong++;
            System.out.println("no answer looked at for: " + sentence);
        }
    }

    private static int[] each(int... got) {
        return got;
    }

    private static void due(int[] got, int... want) {
        answers += want.length;
        if (!java.util.Arrays.equals(got, want)) {
            wrong++;
            System.out.println(sentence + ": answered " + java.util.Arrays.toString(got)
                    + ", due is " + java.util.Arrays.toString(want) + " at "
                    + new Throwable().getStackTrace()[1]);
        }
    }

    private static SqueezedCode written(String text) {
        SqueezedCode x = new SqueezedCode();
        for (int k = 0; k < text.length(); k++) {
            x.write(text.charAt(k));
        }
        return x;
    }

    private static SqueezedCode laid(String text) {
        SqueezedCode x = written(text);
        due(each(Math.min(x.lay(), 0)), 0);
        return x;
    }

    private static SqueezedCode ran(String text, int kind) {
        SqueezedCode x = laid(text);
        x.start(kind);
        x.step(400);
        return x;
    }

    private static int faultOf(String text) {
        return written(text).fault();
    }

    private static int layOf(String text) {
        return written(text).lay();
    }

    private static int sumBy(String text) {
        return ran(text, 0).now(1);
    }

    // ---- the face

    private static void face() {
        says("BAD = -1, NO = -2, FULL = -3, NONE = -4, ZERO = 100000");
        due(each(SqueezedCode.BAD, SqueezedCode.NO, SqueezedCode.FULL, SqueezedCode.NONE, SqueezedCode.ZERO),
                BAD, NO, FULL, NONE, ZERO);
        says("An object is used for at most 512 calls after it has been made");
        SqueezedCode x = new SqueezedCode();
        for (int k = 0; k < 510; k++) {
            x.hold(1 + k % 2);
        }
        due(each(x.count(6), x.hold(4)), 6, 2);
    }

    // ---- terms, 1

    private static void programs() {
        says("A PROGRAM has INSTRUCTIONS 0, 1, .. (1 to 48): one");
        SqueezedCode x = written("h");
        due(each(x.lay(), x.count(0), x.code(0, 0), x.code(1, 0), x.address(1), x.seek(1)), 1, 1, 'h', BAD, BAD, BAD);
        due(each(x.add(0, 2, -1), x.add(1, 2, -1), x.gain(1, 2, -1)), NO, BAD, BAD);
        says("A PROGRAM has INSTRUCTIONS 0, 1, .. (1 to 48): 48");
        x = written("j00".repeat(48));
        due(each(x.lay(), x.count(0), x.code(47, 0), x.code(48, 0)), 48, 48, 'j', BAD);
        due(each(x.address(47), x.address(48), x.seek(47), x.seek(48)), 188, BAD, 32, BAD);
        due(each(x.size(0), x.nibble(191), x.nibble(192), x.at(188), x.at(189)), 192, 0, NONE, 47, NONE);
        says("A PROGRAM has INSTRUCTIONS 0, 1, .. (1 to 48): 49 are too many");
        due(each(layOf("h".repeat(48)), layOf("h".repeat(49)), layOf("a1".repeat(49))), 48, NO, NO);
    }

    private static void texts() {
        says("A TEXT is letters (200 at most); FULL");
        SqueezedCode x = written("j00".repeat(66) + "h");
        due(each(x.count(7), x.write('h'), x.count(7), x.write('h'), x.count(7)), 199, 200, 200, FULL, 200);
        due(each(x.fault(), x.wipe(), x.count(7), x.write('h'), x.fault()), 144, 200, 0, 1, NONE);
        says("A letter (32 to 126, as in ASCII) comes behind THE TEXT: how long it is. BAD");
        x = new SqueezedCode();
        due(each(x.write(31), x.write(32), x.write(126), x.write(127)), BAD, 1, 2, BAD);
        due(each(x.write(0), x.write(-1), x.write(LOW), x.write(HIGH), x.write(128), x.write(65536 + 'h'), x.count(7)),
                BAD, BAD, BAD, BAD, BAD, BAD, 2);
        says("BAD; FULL: the first in the order told");
        x = written("h".repeat(200));
        due(each(x.write(31), x.write(127), x.write(32), x.write(126)), BAD, BAD, FULL, FULL);
        says("wipe: THE TEXT is empty: how long it was");
        x = written("hh");
        due(each(x.wipe(), x.wipe(), x.count(7), x.fault(), x.write('a'), x.fault()), 2, 0, 0, NONE, 1, 0);
        says("no sign between");
        due(each(faultOf(" h"), faultOf("h h"), faultOf("h "), faultOf("a1,a1"), faultOf("a 1")), 0, 1, 1, 2, 0);
    }

    private static void simpleOnes() {
        says("SUM is 0 to 65535: modulo 65536: aK");
        due(each(sumBy(TOP), sumBy(TOP + "a0"), sumBy(TOP + "a1"), sumBy(TOP + "a2"), sumBy(TOP + "a9")),
                65535, 65535, 0, 1, 8);
        due(each(sumBy(TOP + "x1a1"), sumBy(TOP + "x1a2"), sumBy("a0"), sumBy("a9")), 65535, 0, 0, 9);
        says("SUM is 0 to 65535: modulo 65536: mK");
        due(each(sumBy(TOP + "m0"), sumBy(TOP + "m1"), sumBy(TOP + "m2"), sumBy(TOP + "m9")), 0, 65535, 65534, 65527);
        due(each(sumBy("a8m8m8m8m8"), sumBy("a8m8m8m8m8m2"), sumBy("a9m9")), 32768, 0, 81);
        says("SUM with other bits where K has them");
        due(each(sumBy("a9x9"), sumBy("a9x0"), sumBy("a5x3"), sumBy("x7"), sumBy(TOP + "x9"), sumBy(TOP + "x0")),
                0, 9, 6, 7, 65526, 65535);
        says("SUM becomes both together (modulo 65536): pK");
        due(each(sumBy(TOP + "s1p1"), sumBy(TOP + "s1x1x1a1p1"), sumBy("a8m8m8m8m8s9p9"), sumBy("a5p0")),
                65534, 65535, 0, 5);
        says("CELL K (0 to 9) becomes SUM; SUM becomes CELL K");
        SqueezedCode x = ran("a1s0a1s1a1s2a1s3a1s4a1s5a1s6a1s7a1s8a1s9m0", 0);
        for (int k = 0; k < 10; k++) {
            due(each(x.cell(k)), k + 1);
        }
        due(each(x.cell(-1), x.cell(10)), BAD, BAD);
        due(each(sumBy("a1s9a1s0l9"), sumBy("a1s9a1s0l0"), sumBy("a7l3"), sumBy("a7s0a1s0m0l0")), 1, 2, 0, 8);
        x = ran("a3s5a1l5p5", 1);
        due(each(x.cell(5), x.now(1)), 3, 6);
        says("SUM and K together are OUT (modulo 65536)");
        x = ran(TOP + "w0w1w9", 0);
        due(each(x.out(0), x.out(1), x.out(2), x.now(1)), 65535, 0, 8, 65535);
    }

    private static void jumps() {
        says("it goes on at INSTRUCTION TT (two figures): jTT");
        due(each(ran("j02w1w2", 0).out(0), ran("j02w1w2", 0).now(2), ran("hj00", 0).now(2)), 2, 2, 1);
        due(each(ran("j00", 0).now(2), ran("j01j00", 1).now(2)), 400, 400);
        SqueezedCode x = laid("j47" + "h".repeat(46) + "w3");
        x.start(0);
        due(each(x.step(1), x.now(0), x.step(2), x.out(0), x.now(0)), 1, 47, 1, 3, NONE);
        says("it does so if SUM is 0: zTT");
        due(each(ran("z02w1w2", 0).out(0), ran("a1z03w1w2", 0).out(0), ran("a9z03w1w2", 0).out(0)), 2, 2, 10);
        due(each(ran(TOP + "z11w0w2", 0).out(0), ran(TOP + "a1z12w1w2", 0).out(0)), 65535, 2);
        says("SUM becomes the ADDRESS of INSTRUCTION TT: kTT");
        due(each(sumBy("a9k00"), sumBy("k01h"), sumBy("k00"), ran("a9k00", 1).now(1), ran("a9k01", 1).now(1),
                ran("k01h", 1).now(1)), 0, 1, 0, 0, 2, 4);
        x = laid("k47" + "a1".repeat(46) + "h");
        x.start(1);
        due(each(x.step(1), x.now(1), x.add(1, 4, -1), x.start(1), x.step(1), x.now(1)), 1, 96, 0, 0, 1, 4 + 8 + 4 * 4 + 8);
        says("it ends: h");
        x = ran("hw1", 0);
        due(each(x.now(0), x.now(2), x.now(3), x.now(4), x.step(1)), NONE, 1, 0, 0, NO);
    }

    private static void faults() {
        says("FAULT: the place (from 0 on) of the first letter of the first INSTRUCTION that is not so");
        due(each(faultOf("b"), faultOf("a1b"), faultOf("qhb"), faultOf("j00b1"), faultOf("hA1"), faultOf("??")),
                0, 2, 2, 3, 1, 0);
        says("that is not so: unfinished at the end of THE TEXT");
        due(each(faultOf("a"), faultOf("ha"), faultOf("j"), faultOf("j0"), faultOf("hj0"), faultOf("a1k")),
                0, 1, 0, 0, 1, 2);
        for (char letter : "amxslpw".toCharArray()) {
            due(each(faultOf("h" + letter), faultOf("h" + letter + "0"), faultOf("h" + letter + "9")), 1, NONE, NONE);
            due(each(faultOf("h" + letter + "/"), faultOf("h" + letter + ":"), faultOf("h" + letter + "00")), 1, 1, 3);
        }
        for (char letter : "jzk".toCharArray()) {
            due(each(faultOf("h" + letter + "0"), faultOf("h" + letter + "01"), faultOf("h" + letter + "010")),
                    1, NONE, 4);
            due(each(faultOf("h" + letter + "0:"), faultOf("h" + letter + ":0"), faultOf("h" + letter + "0/"),
                    faultOf("h" + letter + "/0")), 1, 1, 1, 1);
        }
        due(each(faultOf("q"), faultOf("h"), faultOf("q0"), faultOf("h0")), NONE, NONE, 1, 1);
        says("a 49th is none");
        due(each(faultOf("h".repeat(48)), faultOf("h".repeat(49)), faultOf("h".repeat(50)), faultOf("h".repeat(48) + "?")),
                NONE, 48, 48, 48);
        due(each(faultOf("a1".repeat(48)), faultOf("a1".repeat(49)), faultOf("j00".repeat(48) + "j00")), NONE, 96, 144);
        due(each(faultOf("h".repeat(47) + "?"), faultOf("h".repeat(47) + "?h")), 47, 47);
        says("if all are, of the first one of which TT is no INSTRUCTION");
        for (char letter : "jzk".toCharArray()) {
            due(each(faultOf(letter + "00"), faultOf(letter + "01"), faultOf(letter + "01h"), faultOf("h" + letter + "02"),
                    faultOf("hh" + letter + "99")), NONE, 0, NONE, 1, 2);
        }
        due(each(faultOf("j47" + "h".repeat(47)), faultOf("j48" + "h".repeat(47)), faultOf("j47" + "h".repeat(46))),
                NONE, 0, 0);
        due(each(faultOf("hj09hk08"), faultOf("hj02hk08"), faultOf("hj10" + "a1".repeat(8)), faultOf("hj10" + "a1".repeat(9))),
                1, 5, 1, NONE);
        says("if all are: one that is not so is told first, though it stands behind");
        due(each(faultOf("j99?"), faultOf("j99ha"), faultOf("j99" + "h".repeat(48))), 3, 4, 50);
        says("fault: NONE");
        due(each(faultOf(""), new SqueezedCode().fault(), faultOf("j00")), NONE, NONE, NONE);
    }

    private static void laid() {
        says("LAID is a TEXT without FAULT, with an INSTRUCTION (NO else)");
        SqueezedCode x = new SqueezedCode();
        due(each(x.lay(), x.count(0)), NO, 27);
        due(each(layOf("?"), layOf("h?"), layOf("a"), layOf("j01"), layOf(" "), layOf("h")), NO, NO, NO, NO, NO, 1);
        x = written("hh");
        due(each(x.lay(), x.wipe(), x.lay(), x.count(0), x.write('q'), x.lay(), x.count(0)), 2, 2, NO, 2, 1, 1, 1);
        says("at first a5s0a3m2s1w0a5s0a7m2s1w1k14qa1a5s0a9m2s1w2l0z26x1s0j16h");
        String first = "a5s0a3m2s1w0a5s0a7m2s1w1k14qa1a5s0a9m2s1w2l0z26x1s0j16h";
        x = new SqueezedCode();
        SqueezedCode y = laid(first);
        due(each(x.count(0), y.count(0)), 27, 27);
        for (int i = 0; i < 27; i++) {
            due(each(x.code(i, 0), x.code(i, 1), x.code(i, 2)), y.code(i, 0), y.code(i, 1), y.code(i, 2));
        }
        says("A new object: as told; THE TEXT is empty");
        due(each(x.count(1), x.count(2), x.count(3), x.count(4), x.count(5), x.count(6), x.count(7), x.count(8)),
                0, 8, 2, 4, 3, 0, 0, 0);
        due(each(x.wipe(), x.fault(), x.undo(), x.step(1), x.drop(0), x.size(5)), 0, NONE, NO, NO, BAD, 0);
        says("lay: THE TABLE has no ENTRIES, nothing can be UNDONE (W, C stay) (THE TEXT stays)");
        x = written("a1a2");
        x.add(0, 2, 0);
        x.wide(16);
        x.hold(3);
        due(each(x.count(6), x.lay(), x.count(1), x.count(2), x.count(3), x.count(6), x.count(7)), 3, 2, 0, 16, 3, 0, 4);
        due(each(x.undo(), x.drop(0), x.size(1), x.add(0, 2, 0), x.lay(), x.count(1), x.undo()), NO, BAD, 0, 0, 2, 0, NO);
        says("LAID: of the PROGRAM that was there before nothing is left");
        x = written("a1a1a1a1a1a1a1a1k00");
        x.lay();
        x.add(0, 2, -1);
        x.gain(0, 3, -1);
        x.wipe();
        x.write('a');
        x.write('1');
        x.write('a');
        x.write('1');
        due(each(x.lay(), x.count(0), x.count(5), x.code(0, 2), x.gain(0, 2, -1), x.gain(1, 2, -1), x.gain(0, 3, -1)),
                2, 2, 0, 0, ZERO - 3, NO, NO);
        due(each(x.add(0, 2, -1), x.entry(0, 2), x.entry(0, 3), x.size(0), x.size(4), x.size(5), x.at(2), x.nibble(2)),
                0, 1, 1, 2, 4, 1, NONE, NONE);
        due(each(x.line(0, 1), x.line(0, 2), x.line(1, 0), x.address(2), x.seek(1)), 2, 1, BAD, BAD, 2);
        x = written("a2qhk02");
        x.lay();
        x.wipe();
        x.write('a');
        x.write('2');
        x.write('q');
        x.write('h');
        due(each(x.lay(), x.start(0), x.step(9), x.now(4)), 3, 0, 2, 1);
        says("lay: NO; nothing changes then");
        x = written("a1a2");
        x.add(0, 2, 0);
        x.start(1);
        x.write('?');
        due(each(x.lay(), x.count(0), x.count(1), x.count(6), x.count(7), x.count(8)), NO, 27, 1, 1, 5, 1);
        says("The first seven are SIMPLE");
        for (char letter : "amxslpw".toCharArray()) {
            due(each(laid(letter + "0a0").add(0, 2, -1), laid("a0" + letter + "0").add(0, 2, -1)), 0, 0);
        }
        for (String other : new String[] {"j00", "z00", "k00", "q", "h"}) {
            due(each(laid("a0" + other).add(0, 2, -1), laid("a0" + other).add(1, 2, -1), laid(other + "a0a0").add(0, 2, -1)),
                    NO, NO, NO);
        }
    }

    private static void targetsAndLines() {
        says("TARGETS are INSTRUCTIONS that are TT of one");
        due(each(laid("j00").count(5), laid("z00").count(5), laid("k00").count(5), laid("a0h").count(5)), 1, 1, 1, 0);
        SqueezedCode x = laid("j03z03k03hq");
        due(each(x.count(5), x.code(3, 2), x.code(2, 2), x.code(4, 2), x.code(0, 2)), 1, 1, 0, 0, 0);
        StringBuilder all = new StringBuilder();
        for (int i = 0; i < 48; i++) {
            all.append('k').append(i / 10).append(i % 10);
        }
        x = laid(all.toString());
        due(each(x.count(5), x.code(0, 2), x.code(47, 2)), 48, 1, 1);
        due(each(layOf("h"), laid("j01h").count(5)), 1, 1);
        x = written("j01hk00");
        due(each(x.lay(), x.count(5), x.wipe(), x.write('h'), x.lay(), x.count(5), x.code(0, 2)), 3, 2, 7, 1, 1, 0, 0);
        says("LINES are W INSTRUCTIONS each (4, 8 or 16; 8 at first)");
        int[] lengths = {1, 3, 4, 5, 7, 8, 9, 15, 16, 17, 32, 33, 47, 48};
        for (int length : lengths) {
            x = laid("h".repeat(length));
            due(each(x.count(2), x.count(4), x.size(2)), 8, (length + 7) / 8, (length + 7) / 8 * 3);
            due(each(x.wide(4), x.count(4), x.size(2)), 8, (length + 3) / 4, (length + 3) / 4 * 3);
            due(each(x.wide(16), x.count(4), x.size(2)), 4, (length + 15) / 16, (length + 15) / 16 * 3);
        }
        says("LINE i those from i times W on");
        x = laid("h".repeat(17));
        due(each(x.line(0, 0), x.line(1, 0), x.line(2, 0), x.line(3, 0)), 0, 8, 16, BAD);
        due(each(x.line(0, 1), x.line(1, 1), x.line(2, 1), x.line(3, 1)), 8, 8, 1, BAD);
        x.wide(16);
        due(each(x.line(1, 0), x.line(0, 1), x.line(1, 1), x.line(2, 0)), 16, 16, 1, BAD);
        x.wide(4);
        due(each(x.line(4, 0), x.line(3, 1), x.line(4, 1), x.line(5, 0)), 16, 4, 1, BAD);
    }

    // ---- terms, 2

    private static void sequences() {
        says("A SEQUENCE is 2 to 4 SIMPLE INSTRUCTIONS");
        SqueezedCode x = laid("a1a2a3a4a5a6a7a8");
        due(each(x.add(0, 1, -1), x.add(0, 5, -1), x.add(0, 0, -1), x.gain(0, 1, -1), x.gain(0, 5, -1)),
                BAD, BAD, BAD, BAD, BAD);
        due(each(x.add(0, 2, -1), x.add(0, 3, -1), x.add(0, 4, -1)), 0, 1, 2);
        says("A SEQUENCE is one behind the other: none reaches behind the last INSTRUCTION");
        x = laid("a1a2a3a4a5");
        due(each(x.add(4, 2, -1), x.add(3, 3, -1), x.add(2, 4, -1), x.gain(4, 2, 0)), NO, NO, NO, NO);
        due(each(x.add(3, 2, -1), x.add(2, 3, -1), x.add(1, 4, -1)), 0, 1, 2);
        says("A SEQUENCE is in one LINE");
        for (int w = 4; w <= 16; w *= 2) {
            x = laid("a1".repeat(24));
            x.wide(w);
            due(each(x.gain(w - 1, 2, 0), x.gain(w - 1, 4, 0), x.gain(w - 2, 3, 0), x.gain(w - 3, 4, 0)), NO, NO, NO, NO);
            due(each(Math.min(0, x.gain(w - 2, 2, 0)), Math.min(0, x.gain(w - 3, 3, 0)), Math.min(0, x.gain(w - 4, 4, 0)),
                    Math.min(0, x.gain(w, 4, 0))), 0, 0, 0, 0);
        }
        says("none but the first one a TARGET");
        x = laid("a1a2a3a4a5j02");
        due(each(x.gain(1, 2, 0), x.gain(0, 3, 0), x.gain(0, 4, 0), x.gain(1, 4, 0)), NO, NO, NO, NO);
        due(each(Math.min(0, x.gain(2, 2, 0)), Math.min(0, x.gain(2, 3, 0)), Math.min(0, x.gain(0, 2, 0))), 0, 0, 0);
        x = laid("a1a2a3a4k03");
        due(each(x.gain(0, 4, 0), x.gain(2, 2, 0), Math.min(0, x.gain(0, 3, 0)), x.gain(3, 2, 0)), NO, NO, 0, NO);
        x = laid("z00a1a2");
        due(each(Math.min(0, x.gain(1, 2, 0))), 0);
    }

    private static void entriesAndMatches() {
        says("ENTRIES 0, 1, .. (8 at most, none at first); FULL: 8");
        SqueezedCode x = laid("a1a2a3a4a5a6a7a8");
        due(each(x.count(1), x.entry(0, 0)), 0, BAD);
        for (int i = 0; i < 7; i++) {
            due(each(x.add(i, 2, 0), x.count(1)), i, i + 1);
        }
        due(each(Math.min(0, x.gain(0, 3, -1)), x.add(0, 3, -1), x.count(1)), 0, 7, 8);
        due(each(x.add(0, 3, 0), x.gain(0, 3, 0), x.count(1), x.entry(7, 0), x.entry(8, 0)), FULL, FULL, 8, 3, BAD);
        due(each(x.drop(7), x.add(0, 3, 0), x.count(1)), 7, 7, 8);
        says("one of which may be a HOLE: (0 to n - 1; -1: none)");
        x = laid("a1a2a3a4");
        for (int n = 2; n <= 4; n++) {
            due(each(x.gain(0, n, -2), x.gain(0, n, n), x.add(0, n, -2), x.add(0, n, n)), BAD, BAD, BAD, BAD);
            due(each(Math.min(0, x.gain(0, n, -1)), Math.min(0, x.gain(0, n, 0)), Math.min(0, x.gain(0, n, n - 1))), 0, 0, 0);
            due(each(x.add(0, n, n - 1), x.entry(0, 1), x.part(0, n - 1, 1), x.drop(0)), 0, n - 1, NONE, 0);
            due(each(x.add(0, n, 0), x.entry(0, 1), x.part(0, 0, 1), x.drop(0)), 0, 0, NONE, 0);
            due(each(x.add(0, n, -1), x.entry(0, 1), x.part(0, 0, 1), x.drop(0)), 0, NONE, 1, 0);
        }
        says("A SEQUENCE MATCHES an ENTRY, if it has as many INSTRUCTIONS, the same letters and the same K");
        x = laid("a1m2x3a1qa1m3qa1m2qa1s2qa2m2qs1m2q");
        due(each(x.add(0, 2, -1), x.entry(0, 3)), 0, 2);
        due(each(x.add(0, 2, 1), x.entry(1, 3)), 1, 3);
        due(each(x.add(0, 2, 0), x.entry(2, 3)), 2, 3);
        due(each(x.add(0, 3, 2), x.entry(3, 3)), 3, 1);
        says("A SEQUENCE MATCHES an ENTRY: as many INSTRUCTIONS, though behind the last one there are none");
        x = laid("a1a1a1");
        due(each(x.add(0, 2, -1), x.entry(0, 3), x.add(0, 3, -1), x.entry(1, 3)), 0, 2, 1, 1);
        says("any where the HOLE is: 0 to 9");
        x = laid("a0s1a9s1a5s1m0s1");
        due(each(x.add(4, 2, 0), x.entry(0, 3), x.nibble(2), x.nibble(5), x.nibble(8)), 0, 3, 0, 9, 5);
    }

    private static void alike() {
        says("Two ENTRIES are ALIKE that have the same letters, K (but at a HOLE) and HOLE");
        SqueezedCode x = laid("a1m2qa1m3qa2m2qs1m2qa1m2x3");
        due(each(x.add(0, 2, -1), x.add(12, 2, -1), x.gain(12, 2, -1)), 0, NO, NO);
        due(each(x.add(0, 2, 0), x.add(6, 2, 0), x.gain(6, 2, 0), x.add(3, 2, 0)), 1, NO, NO, 2);
        due(each(x.add(0, 2, 1), x.add(3, 2, 1), x.gain(3, 2, 1), x.add(6, 2, 1)), 3, NO, NO, 4);
        due(each(x.add(9, 2, -1), x.add(12, 3, -1), x.add(3, 2, -1), x.count(1)), 5, 6, 7, 8);
        says("ALIKE: a shorter or longer one is not");
        x = laid("a1a1a1a1");
        due(each(x.add(0, 2, 0), x.add(0, 3, 0), x.add(0, 4, 0), x.add(1, 3, 0), x.add(2, 2, 0)), 0, 1, 2, NO, NO);
        says("ALIKE: to an ENTRY that is there no more none is");
        due(each(x.drop(1), x.add(1, 3, 0), x.count(1)), 2, 2, 3);
    }

    private static void nibbles() {
        says("An INSTRUCTION by itself: its KIND (a 0 .. h 11), with SIMPLE ones K; K 0 and 9");
        SqueezedCode x = laid("a9m9x9s9l9p9w9a0m0x0s0l0p0w0qh");
        for (int k = 0; k < 7; k++) {
            due(each(x.nibble(2 * k), x.nibble(2 * k + 1), x.nibble(14 + 2 * k), x.nibble(15 + 2 * k)), k, 9, k, 0);
        }
        due(each(x.nibble(28), x.nibble(29), x.nibble(30), x.size(0)), 10, 11, NONE, 30);
        says("with j, z, k the ADDRESS of TT, by three NIBBLES, the highest first");
        x = laid("j00z47k46" + "j00".repeat(44) + "h");
        due(each(x.nibble(0), x.nibble(1), x.nibble(2), x.nibble(3)), 7, 0, 0, 0);
        due(each(x.nibble(4), x.nibble(5), x.nibble(6), x.nibble(7)), 8, 0, 188 / 16, 188 % 16);
        due(each(x.nibble(8), x.nibble(9), x.nibble(10), x.nibble(11)), 9, 0, 184 / 16, 184 % 16);
        x = laid("k08a1a2a3a4a5qqh");
        due(each(x.address(8), x.nibble(1), x.nibble(2), x.nibble(3)), 16, 0, 1, 0);
        due(each(x.add(1, 2, -1), x.address(8), x.nibble(2), x.nibble(3)), 0, 14, 0, 14);
        due(each(x.undo(), x.add(1, 2, 0), x.address(8), x.nibble(2), x.nibble(3)), 0, 0, 15, 0, 15);
        says("A REFERENCE to an ENTRY: 15, which ENTRY, and, if it has a HOLE, the K that stands there");
        x = laid("a0m1s2w9qa9m1s2w9q");
        x.wide(16);
        due(each(x.add(0, 4, 0), x.size(0), x.nibble(0), x.nibble(1), x.nibble(2), x.nibble(3)), 0, 8, 15, 0, 0, 10);
        due(each(x.nibble(4), x.nibble(5), x.nibble(6), x.nibble(7), x.nibble(8)), 15, 0, 9, 10, NONE);
        x.undo();
        due(each(x.add(5, 4, 3), x.nibble(9), x.nibble(10), x.nibble(11), x.size(0)), 0, 15, 0, 9, 13);
        x.undo();
        due(each(x.add(5, 4, -1), x.nibble(9), x.nibble(10), x.nibble(11), x.nibble(12), x.size(0)), 0, 15, 0, 10, NONE, 12);
        says("which ENTRY: the eighth is 7");
        x = laid("a1a2a3a4a5a6a7a8m1m2m3m4");
        for (int i = 0; i < 7; i++) {
            x.add(i, 2, -1);
        }
        due(each(x.add(8, 4, 1), x.address(8), x.nibble(8), x.nibble(9), x.nibble(10), x.nibble(11)), 7, 8, 15, 7, 2, NONE);
        says("CODE is what BEST tells, one behind the other; nibble: BAD (below 0); NONE: not so many");
        x = laid("h");
        due(each(x.nibble(0), x.nibble(1), x.nibble(HIGH), x.nibble(-1), x.nibble(LOW)), 11, NONE, NONE, BAD, BAD);
    }

    private static int[] owners(SqueezedCode x) {
        int[] all = new int[x.count(0)];
        for (int i = 0; i < all.length; i++) {
            all[i] = x.code(i, 3);
        }
        return all;
    }

    private static void bestCovers() {
        says("BEST is that of the fewest NIBBLES in all");
        SqueezedCode x = laid("a1a2a3a4");
        x.add(0, 2, -1);
        x.add(2, 2, -1);
        due(owners(x), 0, 0, 1, 1);
        x.add(0, 4, 3);
        due(owners(x), 2, 2, 2, 2);
        x.add(0, 4, -1);
        due(owners(x), 3, 3, 3, 3);
        x = laid("a1a2a3a4a5");
        x.add(0, 2, -1);
        x.add(1, 4, -1);
        due(owners(x), NONE, 1, 1, 1, 1);
        says("of several that in which the lowest INSTRUCTION at which they differ is by itself");
        x = laid("a1a1a1");
        x.add(0, 2, -1);
        due(owners(x), NONE, 0, 0);
        due(each(x.code(1, 4), x.code(2, 4), x.address(0), x.address(1), x.address(2)), 0, 1, 0, 2, NONE);
        x = laid("a1a1a1a1a1a1a1");
        x.add(0, 2, -1);
        due(owners(x), NONE, 0, 0, 0, 0, 0, 0);
        x.drop(0);
        x.add(0, 3, -1);
        due(owners(x), NONE, 0, 0, 0, 0, 0, 0);
        due(each(x.code(1, 4), x.code(2, 4), x.code(3, 4), x.code(4, 4)), 0, 1, 2, 0);
        x = laid("a1a2a3a4");
        x.add(0, 2, -1);
        x.add(2, 2, -1);
        x.add(1, 3, -1);
        due(owners(x), NONE, 2, 2, 2);
        says("else in a REFERENCE to the lowest ENTRY");
        x = laid("a1a2a3a4");
        x.add(0, 3, -1);
        x.add(0, 2, -1);
        x.add(2, 2, -1);
        due(owners(x), 0, 0, 0, NONE);
        x.drop(0);
        x.add(0, 3, -1);
        due(owners(x), 0, 0, 1, 1);
        x = laid("a1a2");
        x.add(0, 2, 1);
        x.add(0, 2, 0);
        due(each(x.code(0, 3), x.nibble(1), x.nibble(2), x.entry(0, 2), x.entry(1, 2)), 0, 0, 2, 1, 0);
        x.drop(0);
        x.add(0, 2, 1);
        due(each(x.code(0, 3), x.nibble(1), x.nibble(2), x.entry(0, 2), x.entry(1, 2)), 0, 0, 1, 1, 0);
        says("none in two; a REFERENCE only where a SEQUENCE is: not over a LINE's end, not over a TARGET");
        x = laid("a1a1a1a1a1");
        x.wide(4);
        x.add(0, 2, -1);
        due(owners(x), 0, 0, 0, 0, NONE);
        x = laid("a1a2a1a2j03");
        x.add(0, 2, -1);
        due(owners(x), 0, 0, NONE, NONE, NONE);
        x = laid("a1a2a1a2j02");
        x.add(0, 2, -1);
        due(owners(x), 0, 0, 0, 0, NONE);
    }

    private static void sizes() {
        says("ADDRESS: how many NIBBLES are ahead of it in CODE; of one in a REFERENCE but the first: none");
        SqueezedCode x = laid("a1a2a3a4qj00h");
        x.add(0, 4, -1);
        due(each(x.address(0), x.address(1), x.address(2), x.address(3), x.address(4), x.address(5), x.address(6)),
                0, NONE, NONE, NONE, 2, 3, 7);
        due(each(x.at(0), x.at(1), x.at(2), x.at(3), x.at(4), x.at(7), x.at(8)), 0, NONE, 4, 5, NONE, 6, NONE);
        says("SIZE: NIBBLES of CODE, of THE TABLE (for each ENTRY 1, and 2 for each of its letters), and 3 for each LINE");
        due(each(x.size(0), x.size(1), x.size(2), x.size(3), x.size(4), x.size(5)), 8, 9, 3, 20, 14, 1);
        x.add(0, 2, 0);
        due(each(x.size(0), x.size(1), x.size(2), x.size(3)), 8, 14, 3, 25);
        x.add(1, 3, 0);
        due(each(x.size(1), x.size(3)), 21, 32);
        x.wide(4);
        due(each(x.size(0), x.size(1), x.size(2), x.size(3), x.size(4)), 8, 21, 6, 35, 14);
        x.drop(0);
        due(each(x.size(0), x.size(1), x.size(3), x.size(5)), 5 + 1 + 4 + 1, 12, 29, 1);
        x = laid("h");
        due(each(x.size(0), x.size(1), x.size(2), x.size(3), x.size(4), x.size(5)), 1, 0, 3, 4, 1, 0);
        says("size: BAD");
        due(each(x.size(-1), x.size(6), x.size(LOW), x.size(HIGH)), BAD, BAD, BAD, BAD);
    }

    /** Pieces that are alike but for the first K (0, 1, ..), each in a line half of its own. */
    private static String piecesWithFirstHole(int many) {
        StringBuilder all = new StringBuilder();
        for (int k = 0; k < many; k++) {
            all.append('a').append(k).append("s1qq");
        }
        return all.toString();
    }

    private static void gains() {
        says("GAIN: how much more SIZE is now than if THE TABLE had it, too (below 0, if less)");
        SqueezedCode x = laid("a1s1");
        due(each(x.gain(0, 2, -1), x.gain(0, 2, 0), x.size(3)), ZERO - 3, ZERO - 4, 7);
        due(each(x.add(0, 2, -1), x.size(3), x.undo()), 0, 10, 0);
        due(each(x.add(0, 2, 0), x.size(3)), 0, 11);
        x = laid(piecesWithFirstHole(4));
        due(each(x.gain(0, 2, 0), x.gain(0, 2, 1), x.gain(0, 2, -1)), ZERO - 1, ZERO - 4, ZERO - 3);
        x = laid(piecesWithFirstHole(5));
        due(each(x.gain(0, 2, 0)), ZERO);
        x = laid(piecesWithFirstHole(6));
        due(each(x.gain(0, 2, 0)), ZERO + 1);
        says("GAIN: beside what THE TABLE has");
        x = laid("a1a2a1a2a1a2a1a2");
        due(each(x.gain(0, 4, -1), x.add(0, 2, -1), x.gain(0, 4, -1), x.gain(0, 2, 0), x.gain(1, 2, -1)),
                ZERO + 3, 0, ZERO + 4 - 9, ZERO - 5, ZERO - 5);
        x = laid("a1a2a1a2a1a2a1a2");
        x.add(0, 4, 0);
        x.add(0, 4, -1);
        x.add(0, 4, 1);
        due(each(x.size(0), x.gain(0, 2, -1), x.gain(0, 4, 3)), 4, ZERO - 5, ZERO - 9);
        due(each(x.drop(1), x.size(0), x.gain(0, 2, -1), x.gain(0, 4, -1)), 2, 6, ZERO - 5, ZERO + 2 - 9);
        due(each(x.drop(0), x.drop(0), x.size(0), x.gain(0, 2, -1), x.gain(0, 4, -1)), 1, 0, 16, ZERO + 3, ZERO + 3);
        x = laid("w0".repeat(48));
        due(each(x.gain(0, 4, -1), x.gain(0, 4, 3), x.gain(0, 2, -1), x.gain(0, 3, -1)),
                ZERO + 96 - 24 - 9, ZERO + 96 - 36 - 9, ZERO + 96 - 48 - 5, ZERO + 96 - 48 - 7);
        says("gain: BAD; NO: it is none, or one is ALIKE; FULL: 8");
        x = laid("a1a2a3a4a5a6a7a8j00");
        due(each(x.gain(-1, 2, 0), x.gain(9, 2, 0), x.gain(8, 2, 0), x.gain(7, 2, 0), x.gain(LOW, 2, 0), x.gain(HIGH, 2, 0)),
                BAD, BAD, NO, NO, BAD, BAD);
        due(each(x.gain(0, LOW, -1), x.gain(0, HIGH, -1), x.gain(0, 2, LOW), x.gain(0, 2, HIGH)), BAD, BAD, BAD, BAD);
        for (int i = 0; i < 7; i++) {
            x.add(i, 2, -1);
        }
        due(each(x.gain(0, 2, -1), x.gain(0, 2, 0), x.add(0, 2, 0)), NO, ZERO - 5, 7);
        due(each(x.gain(0, 2, 2), x.gain(0, 2, 0), x.gain(7, 2, 1), x.gain(0, 2, 1)), BAD, NO, NO, FULL);
    }

    private static int[] entryOf(SqueezedCode x, int e) {
        return each(x.entry(e, 0), x.entry(e, 1), x.part(e, 0, 0), x.part(e, 0, 1));
    }

    private static void chosen() {
        says("CHOSEN: the SEQUENCE of the greatest GAIN, more than 0");
        SqueezedCode x = laid("a1s1");
        due(each(x.choose(1), x.count(1), x.count(6)), NO, 0, 0);
        due(each(laid(piecesWithFirstHole(5)).choose(1), laid(piecesWithFirstHole(5)).choose(8)), NO, NO);
        x = laid(piecesWithFirstHole(6));
        due(each(x.choose(1), x.choose(1)), 1, NO);
        due(entryOf(x, 0), 2, 0, 'a', NONE);
        x = laid("a1a2qqa1a2qqa1a2qqa1a2qqm1m2m3qm1m2m3qm1m2m3q");
        due(each(x.gain(0, 2, -1), x.gain(16, 3, -1), x.choose(1)), ZERO + 3, ZERO + 5, 1);
        due(entryOf(x, 0), 3, NONE, 'm', 1);
        says("of several the shortest");
        x = laid("a1a2a1a2a1a2a1a2");
        due(each(x.gain(0, 2, -1), x.gain(0, 4, -1), x.choose(1)), ZERO + 3, ZERO + 3, 1);
        due(entryOf(x, 0), 2, NONE, 'a', 1);
        says("of several the shortest, though a longer one has no HOLE");
        x = laid("m1m2m3qm1m2m3q" + piecesWithFirstHole(6));
        due(each(x.gain(0, 3, -1), x.gain(8, 2, 0), x.choose(1)), ZERO + 1, ZERO + 1, 1);
        due(entryOf(x, 0), 2, 0, 'a', NONE);
        says("then that with no HOLE, though one with a HOLE is lower");
        x = laid(piecesWithFirstHole(8) + "m1x2qq".repeat(4));
        due(each(x.gain(0, 2, 0), x.gain(32, 2, -1), x.choose(1)), ZERO + 3, ZERO + 3, 1);
        due(entryOf(x, 0), 2, NONE, 'm', 1);
        says("then that of the first HOLE, though one of a later HOLE is lower");
        x = laid("m1x0qqm1x1qqm1x2qqm1x3qqm1x4qqm1x5qq" + piecesWithFirstHole(6));
        due(each(x.gain(0, 2, 1), x.gain(24, 2, 0), x.choose(1)), ZERO + 1, ZERO + 1, 1);
        due(entryOf(x, 0), 2, 0, 'a', NONE);
        x = laid("a1s2x1w1a1s2x4w1a1s2x2w1a1s2x3w1");
        due(each(x.gain(0, 4, 2), x.gain(0, 4, 1), x.choose(1)), ZERO + 32 - 12 - 9, ZERO + 8 - 3 - 9, 1);
        due(entryOf(x, 0), 4, 2, 'a', 1);
        says("then the lowest");
        x = laid("m1x2qq".repeat(4) + "a1s2qq".repeat(4));
        due(each(x.gain(0, 2, -1), x.gain(16, 2, -1), x.choose(1)), ZERO + 3, ZERO + 3, 1);
        due(entryOf(x, 0), 2, NONE, 'm', 1);
        x = laid(piecesWithFirstHole(6));
        x.choose(1);
        due(each(x.part(0, 0, 0), x.part(0, 1, 0), x.part(0, 1, 1)), 'a', 's', 1);
        says("is an ENTRY more (behind all others)");
        x = laid("a1a2qqa1a2qqa1a2qqa1a2qqm1m2");
        x.add(16, 2, -1);
        due(each(x.choose(1), x.part(0, 0, 0), x.part(1, 0, 0), x.count(1)), 1, 'm', 'a', 2);
    }

    /** Two things worth to be chosen, and eight more sequences. */
    private static SqueezedCode withEntries(int many) {
        SqueezedCode x = laid("a1a2qqa1a2qqa1a2qqm1m2qqm1m2qqm1m2qqw1w2w3w4w5w6w7w8");
        for (int k = 0; k < many; k++) {
            due(each(x.add(24 + k, 2, -1)), k);
        }
        return x;
    }

    private static void choseSeveral() {
        says("choose: CHOSEN, n times (1 to 8)");
        due(each(withEntries(0).choose(1), withEntries(0).choose(2), withEntries(0).choose(3), withEntries(0).choose(8)),
                1, 2, 2, 2);
        says("choose: BAD");
        SqueezedCode x = withEntries(0);
        due(each(x.choose(0), x.choose(9), x.choose(-1), x.choose(LOW), x.choose(HIGH), x.count(1)),
                BAD, BAD, BAD, BAD, BAD, 0);
        says("fewer if there is none");
        due(each(x.choose(8), x.count(1), x.count(6), x.choose(8), x.count(6)), 2, 2, 1, NO, 1);
        due(each(x.part(0, 0, 0), x.part(1, 0, 0)), 'a', 'm');
        says("fewer if THE TABLE has 8");
        x = withEntries(6);
        due(each(x.choose(8), x.count(1), x.part(6, 0, 0), x.part(7, 0, 0)), 2, 8, 'a', 'm');
        x = withEntries(7);
        due(each(x.choose(8), x.count(1), x.part(7, 0, 0), x.count(6)), 1, 8, 'a', 6);
        says("NO: none, THE TABLE having 8 among it");
        due(each(x.choose(1), x.choose(8), x.count(1), x.choose(9), x.choose(0)), NO, NO, 8, BAD, BAD);
        due(each(x.drop(0), x.choose(1), x.part(7, 0, 0)), 7, 1, 'm');
    }

    // ---- terms, 3

    private static void runsBegin() {
        says("It begins at INSTRUCTION 0, SUM and CELLS 0, no OUT");
        SqueezedCode x = laid("a9s0s9w0w1hh");
        for (int kind = 0; kind < 2; kind++) {
            x.start(kind);
            due(each(x.now(0), x.now(1), x.now(2), x.now(3), x.now(4), x.now(5), x.now(6), x.now(7), x.now(8)),
                    0, 0, 0, 0, 0, 0, 0, 0, kind);
            due(each(x.cell(0), x.cell(9), x.out(0), x.held(0), x.count(8)), 0, 0, NONE, NONE, 1);
            due(each(x.step(400), x.cell(0), x.cell(9), x.out(1), x.out(2)), 6, 9, 9, 10, NONE);
        }
        says("start: BAD");
        due(each(x.start(-1), x.start(2), x.start(LOW), x.start(HIGH), x.now(2), x.now(8)), BAD, BAD, BAD, BAD, 6, 1);
        says("start anew behind TRAPPED");
        x = laid("a3q");
        x.start(1);
        due(each(x.step(9), x.now(4), x.now(0), x.start(0), x.now(4), x.now(0), x.now(7)), 2, 1, NONE, 0, 0, 0, 0);
        says("PLAIN: ADDRESS of an INSTRUCTION is its number; PLAIN: there is none (no MISS)");
        x = laid("a1k03qw0h");
        x.add(3, 2, -1);
        x.start(0);
        due(each(x.step(400), x.out(0), x.now(5), x.now(6), x.now(7), x.held(0), x.now(8)), 5, 3, 0, 0, 0, NONE, 0);
    }

    private static void runsGoOnAtQ() {
        says("At q it goes on at the TARGET of a k (by any k of the PROGRAM) whose ADDRESS SUM is");
        due(each(ran("a4qk00hw1k04", 0).out(0), ran("a4qk00hw1k04", 0).now(4)), 5, 0);
        due(each(ran("k04qhhw1h", 0).out(0), ran("k04qhhw1h", 1).out(0)), 5, 8);
        due(each(ran("a1a1a1a1qk00hhw1k08h", 1).now(4), ran("a6a9qk05hw1h", 1).now(4)), 1, 1);
        due(each(ran("qw1k01", 0).now(4), ran("qw1k00", 0).now(2), ran("qw1k00", 1).now(2)), 1, 400, 400);
        SqueezedCode x = laid("k04qhhw1k05h");
        x.start(1);
        due(each(x.step(2), x.now(0), x.now(1), x.step(2), x.now(1), x.now(0)), 2, 4, 7, 2, 9, 6);
        says("it is TRAPPED, if there is none");
        due(each(ran("q", 0).now(4), ran("a9q", 1).now(4), ran("a2qh", 0).now(4)), 1, 1, 1);
        says("TRAPPED: TT of a j or z is no TARGET of a k");
        due(each(ran("a3qj03h", 0).now(4), ran("a3qz03h", 0).now(4), ran("a3qk03h", 0).now(4)), 1, 1, 0);
        says("TRAPPED: an INSTRUCTION's number is no ADDRESS, SQUEEZED; nor its NIBBLES' place, PLAIN");
        due(each(ran("a4qhhw1k04h", 0).now(4), ran("a4qhhw1k04h", 1).now(4)), 0, 1);
        due(each(ran("a7qhhhw1k05h", 0).now(4), ran("a6qhhhw1k05h", 1).now(4)), 1, 0);
    }

    private static void runsEnd() {
        says("It ends by h (a STEP)");
        SqueezedCode x = laid("a1hw1");
        x.start(1);
        due(each(x.step(1), x.now(0), x.step(9), x.now(0), x.now(2), x.now(4), x.step(1)), 1, 1, 1, NONE, 2, 0, NO);
        says("It ends behind the last INSTRUCTION");
        x = laid("a1a2");
        x.start(0);
        due(each(x.step(1), x.now(0), x.step(1), x.now(0), x.now(2), x.now(1), x.step(1)), 1, 1, 1, NONE, 2, 3, NO);
        x = laid("a1z00");
        x.start(0);
        due(each(x.step(9), x.now(0), x.now(2), x.now(4)), 2, NONE, 2, 0);
        x = laid("a1".repeat(48));
        x.start(1);
        due(each(x.step(400), x.now(1), x.now(5), x.now(0)), 48, 48, 6, NONE);
        says("It ends TRAPPED (a STEP)");
        x = laid("a1qw1");
        x.start(0);
        due(each(x.step(9), x.now(2), x.now(0), x.now(4), x.now(3), x.step(1)), 2, 2, NONE, 1, 0, NO);
        says("step: n (1 to 400) STEPS, fewer if it ends: how many. BAD");
        x = laid("j00");
        x.start(0);
        due(each(x.step(0), x.step(-1), x.step(401), x.step(LOW), x.step(HIGH), x.now(2)), BAD, BAD, BAD, BAD, BAD, 0);
        due(each(x.step(1), x.now(2), x.step(400), x.now(2)), 1, 1, 400, 401);
        says("step: NO: there is no RUN, it has ended; BAD first");
        due(each(new SqueezedCode().step(1), new SqueezedCode().step(0), new SqueezedCode().step(401)), NO, BAD, BAD);
        x = ran("h", 0);
        due(each(x.step(1), x.step(400), x.step(0), x.step(401)), NO, NO, BAD, BAD);
    }

    private static void thirteenthOut() {
        says("It ends ahead of a w that would be the 13th OUT, when a step() comes to it (which does no more STEP then)");
        SqueezedCode x = laid("w1".repeat(12) + "a1w2h");
        x.start(0);
        due(each(x.step(12), x.now(3), x.now(0), x.step(1), x.now(0), x.now(1)), 12, 12, 12, 1, 13, 1);
        due(each(x.step(1), x.now(0), x.now(2), x.now(3), x.now(4), x.step(1)), 0, NONE, 13, 12, 0, NO);
        due(each(x.out(11), x.out(12), x.count(8), x.now(1)), 1, NONE, 1, 1);
        due(each(x.start(0), x.step(400), x.now(0), x.step(1)), 0, 13, NONE, NO);
        says("the 12th OUT is none too many");
        x = laid("w1".repeat(12) + "h");
        x.start(1);
        due(each(x.step(400), x.now(3), x.now(2), x.now(0)), 13, 12, 13, NONE);
        says("ahead of the 13th: no STEP, so its LINE need not be HELD");
        x = laid("w1".repeat(16));
        x.wide(4);
        x.start(1);
        due(each(x.step(400), x.now(5), x.now(6), x.held(0), x.held(1)), 12, 3, 24, 2, 1);
    }

    private static void heldLines() {
        says("C of them at most, 1 to 4; 2 at first");
        SqueezedCode x = laid("j04hhhj08hhhj12hhhj16hhhj00hhh");
        x.wide(4);
        due(each(x.count(3)), 2);
        for (int c = 1; c <= 4; c++) {
            x.hold(c);
            x.start(1);
            due(each(x.count(3)), c);
            for (int k = 0; k < 6; k++) {
                due(each(x.step(1), x.now(7), x.held(0), x.held(Math.min(c, k + 1)), x.now(5)),
                        1, Math.min(c, k + 1), k % 5, NONE, k + 1);
            }
        }
        says("hold: BAD; NO: it is so");
        due(each(x.hold(4), x.hold(0), x.hold(5), x.hold(-1), x.hold(LOW), x.hold(HIGH), x.count(3)),
                NO, BAD, BAD, BAD, BAD, BAD, 4);
        due(each(x.hold(1), x.hold(1), x.hold(4), x.hold(2), x.hold(3)), 4, NO, 1, 4, 2);
        says("if it is not, it is a MISS; if there are more than C, the one used longest ago is not");
        x = laid("j04hhhj08j09z00hj00hhh");
        x.wide(4);
        x.start(1);
        due(each(x.step(3), x.held(0), x.held(1), x.held(2), x.now(5)), 3, 2, 1, NONE, 3);
        due(each(x.step(1), x.held(0), x.held(1), x.now(5), x.step(1), x.now(5), x.held(0), x.held(1)),
                1, 0, 2, 4, 1, 5, 1, 0);
        says("the one used longest ago: a use makes it the latest");
        x = laid("j04hhhj00j08hhhhhh");
        x.wide(4);
        x.start(1);
        due(each(x.step(3), x.held(0), x.held(1), x.now(5), x.now(6)), 3, 0, 1, 2, 7 + 10);
        due(each(x.step(1), x.held(0), x.held(1), x.held(2), x.now(5)), 1, 1, 0, NONE, 2);
        x = laid("j04hhhj00z08hhhhhh");
        x.wide(4);
        x.start(1);
        due(each(x.step(400), x.held(0), x.held(1), x.now(5)), 400, 1, 0, 2);
        says("DECODED are all NIBBLES of its LINE");
        x = laid("a1a2a3a4ha1a2");
        x.wide(4);
        x.start(1);
        due(each(x.step(1), x.now(6), x.step(3), x.now(6), x.step(1), x.now(6), x.now(5)), 1, 8, 3, 8, 1, 13, 2);
        x.add(0, 4, 2);
        x.start(1);
        due(each(x.step(1), x.now(6), x.step(4), x.now(6)), 1, 3, 4, 8);
        says("h is a STEP, TRAPPED is a STEP: its LINE must be HELD");
        x = ran("j08" + "a1".repeat(7) + "h", 1);
        due(each(x.now(5), x.held(0), x.held(1)), 2, 1, 0);
        x = ran("j08" + "a1".repeat(7) + "q", 1);
        due(each(x.now(5), x.held(0), x.now(4)), 2, 1, 1);
    }

    private static void changes() {
        says("By each, and by LAID, there is no RUN");
        SqueezedCode x = written("hh");
        int[] changes = new int[7];
        for (int k = 0; k < 7; k++) {
            x.start(k % 2);
            x.step(3);
            switch (k) {
                case 0: changes[k] = x.add(0, 2, -1); break;
                case 1: changes[k] = x.drop(0); break;
                case 2: changes[k] = x.choose(1); break;
                case 3: changes[k] = x.wide(4); break;
                case 4: changes[k] = x.hold(4); break;
                case 5: changes[k] = x.undo(); break;
                default: changes[k] = x.lay(); break;
            }
            due(each(x.count(8), x.now(0), x.step(1), x.held(0), x.cell(0), x.out(0)), 0, NO, NO, NO, NO, NO);
        }
        due(changes, 0, 0, 1, 8, 2, 4, 2);
        says("what is no change leaves the RUN");
        x = new SqueezedCode();
        x.start(1);
        x.step(3);
        x.write('h');
        x.wipe();
        x.fault();
        x.gain(0, 2, -1);
        due(each(x.count(8), x.now(0), x.now(2)), 1, 3, 3);
        says("A change: an ENTRY more or fewer (CHOSEN several at once: one), W, C told anew");
        x = withEntries(0);
        due(each(x.choose(2), x.count(6), x.wide(4), x.count(6), x.hold(1), x.count(6), x.drop(1), x.count(6),
                x.add(0, 2, 0), x.count(6)), 2, 1, 8, 2, 2, 3, 1, 4, 1, 5);
        due(each(x.wide(4), x.wide(5), x.hold(1), x.hold(0), x.drop(2), x.add(0, 2, 0), x.choose(0), x.count(6)),
                NO, BAD, NO, BAD, BAD, NO, BAD, 5);
        says("wide: W is told anew (4, 8, 16; ENTRIES stay): what it was. BAD; NO: it is so");
        x = laid("a1a2a3a4a5a6a7a8");
        x.add(2, 4, -1);
        x.add(0, 4, -1);
        due(each(x.entry(0, 3), x.wide(4), x.count(1), x.entry(0, 3), x.entry(0, 0), x.entry(1, 3), x.size(1)),
                1, 8, 2, 0, 4, 1, 18);
        due(each(x.wide(4), x.wide(16), x.wide(16), x.wide(8), x.wide(8), x.entry(0, 3)), NO, 4, NO, 16, NO, 1);
        due(each(x.wide(0), x.wide(1), x.wide(3), x.wide(5), x.wide(7), x.wide(9), x.wide(15), x.wide(17)),
                BAD, BAD, BAD, BAD, BAD, BAD, BAD, BAD);
        due(each(x.wide(2), x.wide(32), x.wide(-4), x.wide(LOW), x.wide(HIGH), x.wide(12), x.count(2)),
                BAD, BAD, BAD, BAD, BAD, BAD, 8);
    }

    private static void undone() {
        says("UNDONE is the latest change; undo: how many more can be. NO");
        SqueezedCode x = new SqueezedCode();
        due(each(x.undo(), x.add(0, 2, -1), x.add(2, 2, -1), x.undo(), x.count(1), x.part(0, 0, 1), x.undo(), x.count(1),
                x.undo()), NO, 0, 1, 1, 1, 5, 0, 0, NO);
        says("the last 6 can be");
        x = new SqueezedCode();
        int[] wide = {4, 16, 8, 4, 16, 8, 4};
        for (int k = 0; k < 7; k++) {
            x.wide(wide[k]);
            due(each(x.count(6)), Math.min(6, k + 1));
        }
        for (int k = 5; k >= 0; k--) {
            due(each(x.undo(), x.count(2), x.count(6)), k, wide[k], k);
        }
        due(each(x.undo(), x.count(2)), NO, 4);
        says("the last 6 can be: ENTRIES as they were");
        x = laid("a1a2a3a4a5a6a7a8");
        for (int i = 0; i < 7; i++) {
            x.add(i, 2, i % 3 - 1);
        }
        x.drop(3);
        for (int k = 5; k >= 0; k--) {
            due(each(x.undo(), x.count(1), x.part(1, 0, 1)), k, k + 2, NONE);
        }
        due(each(x.undo(), x.part(0, 0, 1), x.entry(0, 1), x.entry(1, 1)), NO, 1, NONE, 0);
        says("UNDONE: an ENTRY that was dropped is in its place again");
        x = laid("a1a2a3a4a5a6a7a8");
        x.add(0, 2, -1);
        x.add(1, 3, 1);
        x.add(2, 4, 3);
        due(each(x.drop(0), x.part(0, 0, 1), x.undo(), x.part(0, 0, 1), x.part(1, 0, 1), x.part(2, 0, 1)), 2, 2, 3, 1, 2, 3);
        due(each(x.drop(2), x.entry(2, 0), x.undo(), x.entry(2, 0), x.entry(2, 1), x.part(2, 3, 1)), 2, BAD, 3, 4, 3, NONE);
        says("UNDONE: CHOSEN several at once: one; C and W with it");
        x = withEntries(0);
        x.hold(4);
        due(each(x.choose(8), x.count(6), x.undo(), x.count(1), x.count(3), x.undo(), x.count(3)), 2, 2, 1, 0, 4, 0, 2);
        says("(LAID none)");
        x = written("a1a2");
        x.add(0, 2, -1);
        due(each(x.count(6), x.lay(), x.count(6), x.undo(), x.count(0)), 1, 2, 0, NO, 2);
        says("undo is no change: it can't be UNDONE itself");
        x = new SqueezedCode();
        due(each(x.wide(4), x.undo(), x.undo(), x.count(2), x.count(6)), 8, 0, NO, 8, 0);
        says("then there is no RUN, too; undo NO leaves it");
        due(each(x.hold(1), x.start(0), x.undo(), x.count(8), x.start(0), x.undo(), x.count(8)), 2, 0, 0, 0, 0, NO, 1);
        says("UNDONE: CODE lies as it did");
        x = laid("a1a2a1a2j02");
        due(each(x.size(0), x.nibble(11), x.add(0, 2, -1), x.size(0), x.nibble(7), x.undo(), x.size(0), x.nibble(11)),
                12, 4, 0, 8, 2, 0, 12, 4);
    }

    // ---- what the calls answer at their edges

    private static void askedOfCode() {
        says("code: K or TT (1; NONE: q, h)");
        SqueezedCode x = laid("a0w9j00k07qhhh");
        due(each(x.code(0, 1), x.code(1, 1), x.code(2, 1), x.code(3, 1), x.code(4, 1), x.code(5, 1)), 0, 9, 0, 7, NONE, NONE);
        says("code: whether it is a TARGET (2; 1, 0)");
        due(each(x.code(0, 2), x.code(7, 2), x.code(6, 2), x.code(1, 2)), 1, 1, 0, 0);
        says("code: the ENTRY (3; NONE: it is by itself), which one of that it is (4; 0 the first; NONE)");
        due(each(x.code(0, 3), x.code(0, 4), x.code(4, 3), x.code(4, 4)), NONE, NONE, NONE, NONE);
        x.add(0, 2, -1);
        due(each(x.code(0, 3), x.code(0, 4), x.code(1, 3), x.code(1, 4), x.code(2, 3), x.code(2, 4)), 0, 0, 0, 1, NONE, NONE);
        says("code: BAD");
        due(each(x.code(-1, 0), x.code(8, 0), x.code(LOW, 0), x.code(HIGH, 0), x.code(0, -1), x.code(0, 5),
                x.code(0, LOW), x.code(0, HIGH), x.code(7, 4)), BAD, BAD, BAD, BAD, BAD, BAD, BAD, BAD, NONE);
    }

    private static void askedOfTheTable() {
        says("drop: those behind are one number lower: how many are left. BAD");
        SqueezedCode x = laid("a1a2a3a4");
        due(each(x.drop(0), x.drop(-1), x.add(0, 2, -1), x.drop(1), x.drop(-1), x.drop(LOW), x.drop(HIGH)),
                BAD, BAD, 0, BAD, BAD, BAD, BAD);
        due(each(x.add(0, 3, -1), x.add(0, 4, -1), x.drop(0), x.entry(0, 0), x.entry(1, 0), x.entry(2, 0)), 1, 2, 2, 3, 4, BAD);
        due(each(x.drop(1), x.entry(0, 0), x.drop(1), x.drop(0), x.drop(0)), 1, 3, BAD, 0, BAD);
        says("drop: of a full TABLE");
        x = withEntries(7);
        x.add(0, 2, -1);
        due(each(x.count(1), x.drop(8), x.drop(7), x.drop(0), x.part(0, 0, 1), x.part(5, 0, 1), x.entry(6, 0)),
                8, BAD, 7, 6, 2, 7, BAD);
        says("entry: how many letters, the HOLE (1; NONE), how many REFERENCES, how many SEQUENCES MATCH it. BAD");
        x = laid("a1a1a1a1a1");
        due(each(x.entry(0, 0), x.add(0, 2, -1), x.add(0, 4, 3)), BAD, 0, 1);
        due(each(x.entry(0, 0), x.entry(0, 1), x.entry(0, 2), x.entry(0, 3)), 2, NONE, 0, 4);
        due(each(x.entry(1, 0), x.entry(1, 1), x.entry(1, 2), x.entry(1, 3)), 4, 3, 1, 2);
        due(each(x.entry(-1, 0), x.entry(2, 0), x.entry(0, -1), x.entry(0, 4), x.entry(LOW, 0), x.entry(HIGH, 0),
                x.entry(0, LOW), x.entry(0, HIGH)), BAD, BAD, BAD, BAD, BAD, BAD, BAD, BAD);
        says("part: as in ASCII (what = 0), its K (1; NONE: the HOLE)");
        due(each(x.part(1, 0, 0), x.part(1, 0, 1), x.part(1, 3, 0), x.part(1, 3, 1)), 'a', 1, 'a', NONE);
        says("part: BAD (i below 0); NONE: not so many");
        due(each(x.part(0, -1, 0), x.part(0, LOW, 1), x.part(0, 2, 0), x.part(0, 2, 1), x.part(0, 3, 0), x.part(1, 4, 0),
                x.part(0, HIGH, 0)), BAD, BAD, NONE, NONE, NONE, NONE, NONE);
        due(each(x.part(2, 0, 0), x.part(-1, 0, 0), x.part(0, 0, -1), x.part(0, 0, 2), x.part(HIGH, 0, 0), x.part(LOW, 0, 0)),
                BAD, BAD, BAD, BAD, BAD, BAD);
    }

    private static void askedOfWhatItComesTo() {
        says("address: ADDRESS. BAD; NONE");
        SqueezedCode x = laid("a1a2h");
        x.add(0, 2, 1);
        due(each(x.address(0), x.address(1), x.address(2), x.address(3), x.address(-1), x.address(LOW), x.address(HIGH)),
                0, NONE, 3, BAD, BAD, BAD, BAD);
        says("at: The INSTRUCTION of an ADDRESS. BAD (below 0); NONE");
        due(each(x.at(0), x.at(1), x.at(2), x.at(3), x.at(4), x.at(HIGH), x.at(-1), x.at(-4), x.at(LOW)),
                0, NONE, NONE, 2, NONE, NONE, BAD, BAD, BAD);
        says("line: the ADDRESS of its first INSTRUCTION, how many NIBBLES it has, REFERENCES. BAD (LINES such as there are)");
        x = laid("a1a2a1a2a1a2a1a2h");
        x.add(0, 2, -1);
        due(each(x.line(0, 0), x.line(0, 1), x.line(0, 2), x.line(1, 0), x.line(1, 1), x.line(1, 2)), 0, 8, 4, 8, 1, 0);
        due(each(x.line(2, 0), x.line(-1, 0), x.line(LOW, 0), x.line(HIGH, 0), x.line(0, -1), x.line(0, 3)),
                BAD, BAD, BAD, BAD, BAD, BAD);
        SqueezedCode y = laid("ha1a2hhhhha1a2hhhhhha1a2a1a2hhhh");
        y.add(1, 2, -1);
        due(each(y.line(0, 2), y.line(1, 2), y.line(2, 2), y.line(3, 2), y.size(5)), 1, 1, 2, BAD, 4);
        due(each(x.line(1 << 29, 0), x.line(0, LOW), x.line(0, HIGH), x.line(1 << 28, 2)), BAD, BAD, BAD, BAD);
        says("seek: all of its own or of its REFERENCE, too. BAD");
        due(each(x.seek(0), x.seek(1), x.seek(6), x.seek(7), x.seek(8)), 2, 2, 8, 8, 1);
        due(each(x.seek(-1), x.seek(9), x.seek(LOW), x.seek(HIGH)), BAD, BAD, BAD, BAD);
        x = laid("j00a1a2a3a4qh");
        x.add(1, 4, 0);
        due(each(x.seek(0), x.seek(1), x.seek(4), x.seek(5), x.seek(6)), 4, 7, 7, 8, 9);
    }

    private static void askedOfRuns() {
        says("now: BAD; NO: there is none");
        SqueezedCode x = laid("a1s0w1h");
        due(each(x.now(0), x.now(8), x.now(-1), x.now(9)), NO, NO, BAD, BAD);
        x.start(0);
        due(each(x.now(-1), x.now(9), x.now(LOW), x.now(HIGH)), BAD, BAD, BAD, BAD);
        says("held: BAD (below 0); NO: there is no RUN; NONE: not so many");
        SqueezedCode y = laid("a1s0w1h");
        due(each(y.held(0), y.held(-1), y.held(HIGH), y.start(1), y.held(0), y.step(1), y.held(0), y.held(1), y.held(HIGH),
                y.held(-1), y.held(LOW)), NO, BAD, NO, 0, NONE, 1, 0, NONE, NONE, BAD, BAD);
        says("cell: BAD; NO: there is no RUN");
        y = laid("a1s0w1h");
        due(each(y.cell(0), y.cell(9), y.cell(10), y.cell(-1), y.start(0), y.cell(0), y.cell(10), y.cell(LOW), y.cell(HIGH)),
                NO, NO, BAD, BAD, 0, 0, BAD, BAD, BAD);
        says("out: BAD (below 0); NO: there is no RUN; NONE: not so many");
        y = laid("a1s0w1h");
        due(each(y.out(0), y.out(-1), y.out(HIGH), y.start(0), y.out(0), y.step(9), y.out(0), y.out(1), y.out(12),
                y.out(HIGH), y.out(-1), y.out(LOW)), NO, BAD, NO, 0, NONE, 4, 2, NONE, NONE, NONE, BAD, BAD);
        says("an ended RUN is told of still");
        due(each(y.count(8), y.now(0), y.now(1), y.now(2), y.cell(0), y.out(0)), 1, NONE, 1, 4, 1, 2);
        says("count: 8 whether there is a RUN (1, 0). BAD");
        due(each(x.count(8), laid("h").count(8), x.count(-1), x.count(9), x.count(LOW), x.count(HIGH)), 1, 0, BAD, BAD, BAD, BAD);
    }

    private static void ordersOfRefusals() {
        says("Of several the first in the order told: BAD, NO, FULL");
        SqueezedCode x = withEntries(7);
        x.add(0, 2, -1);
        due(each(x.add(99, 2, -1), x.add(0, 9, -1), x.add(0, 2, 5), x.add(0, 2, -1), x.add(2, 2, -1), x.add(0, 2, 0)),
                BAD, BAD, BAD, NO, NO, FULL);
        due(each(x.gain(99, 2, -1), x.gain(0, 9, -1), x.gain(0, 2, 5), x.gain(0, 2, -1), x.gain(2, 2, -1), x.gain(0, 2, 0)),
                BAD, BAD, BAD, NO, NO, FULL);
        says("Of several the first in the order told: BAD, NONE");
        due(each(x.part(0, 9, 2), x.part(8, 9, 0), x.part(0, 9, 1), x.part(0, -1, 2)), BAD, BAD, NONE, BAD);
        says("Of several the first in the order told: BAD, NO, NONE");
        due(each(x.held(-1), x.held(9), x.out(-1), x.out(99), x.cell(99), x.cell(9), x.now(9), x.now(8)),
                BAD, NO, BAD, NO, BAD, NO, BAD, NO);
        Unchanged.look();
        says("BAD: a number is none that is told: any number is answered");
        for (int call = 0; call < Numbers.CALLS; call++) {
            Numbers.ask(call);
        }
    }

    /** Each call with numbers of all kinds, for each place that takes one. */
    private static final class Numbers {
        private static final int CALLS = 24;
        private static final int[] ALL = {LOW, LOW + 1, -65536, -100, -5, -4, -3, -2, -1, 0, 1, 2, 3, 4, 5, 7, 8, 9, 10,
            12, 15, 16, 26, 27, 28, 31, 32, 47, 48, 49, 126, 127, 191, 192, 200, 400, 401, 65536, HIGH - 1, HIGH};
        private static final int[] FEW = {LOW, -2, -1, 0, 1, 2, 3, 4, 5, HIGH};

        static void ask(int call) {
            int answered = 0;
            for (int a : ALL) {
                for (int b : FEW) {
                    SqueezedCode x = new SqueezedCode();
                    x.add(8, 4, 1);
                    x.add(2, 3, 0);
                    x.start(1);
                    x.step(40);
                    for (int c : FEW) {
                        answered += answerOf(x, call, a, b, c) >= NONE ? 1 : 0;
                    }
                }
            }
            due(each(call, answered), call, ALL.length * FEW.length * FEW.length);
        }

        private static int answerOf(SqueezedCode x, int call, int a, int b, int c) {
            switch (call) {
                case 0: return x.write(a);
                case 1: return x.code(a, b);
                case 2: return x.code(b, a);
                case 3: return x.add(a, b, c);
                case 4: return x.add(b, a, c);
                case 5: return x.add(b, c, a);
                case 6: return x.gain(a, b, c);
                case 7: return x.gain(b, a, c);
                case 8: return x.gain(b, c, a);
                case 9: return x.choose(a);
                case 10: return x.drop(a);
                case 11: return x.entry(a, b);
                case 12: return x.entry(b, a);
                case 13: return x.part(a, b, c);
                case 14: return x.part(b, a, c);
                case 15: return x.part(b, c, a);
                case 16: return x.wide(a);
                case 17: return x.hold(a) + 0 * x.undo();
                case 18: return Math.min(x.size(a), x.nibble(a));
                case 19: return Math.min(x.address(a), x.at(a));
                case 20: return Math.min(x.line(a, b), x.line(b, a));
                case 21: return Math.min(x.seek(a), x.start(a));
                case 22: return Math.min(Math.min(x.step(a), x.now(a)), Math.min(x.held(a), x.cell(a)));
                default: return Math.min(x.out(a), x.count(a));
            }
        }
    }

    /** Refused calls, each on an object of its own that is then compared with one that had no such call. */
    private static final class Unchanged {
        private static final int STATES = 5, PICTURES = 3;

        interface Call {
            int on(SqueezedCode x);
        }

        static void look() {
            for (int state = 0; state < STATES; state++) {
                int[][] pictures = new int[PICTURES][];
                for (int p = 0; p < PICTURES; p++) {
                    pictures[p] = picture(made(state), p);
                }
                says("BAD: nothing changes then, state " + state);
                refuse(state, pictures, BAD, bad(made(state)));
                says("NO, FULL: nothing changes then, state " + state);
                refuse(state, pictures, 0, refusedIn(state));
                says("what only asks changes nothing, state " + state);
                refuse(state, pictures, 1, asking());
            }
        }

        /** Due 0: one of NO and FULL; 1: anything. */
        private static void refuse(int state, int[][] pictures, int due, Call... calls) {
            for (int k = 0; k < calls.length; k++) {
                for (int p = 0; p < PICTURES; p++) {
                    SqueezedCode x = made(state);
                    int answer = calls[k].on(x);
                    boolean asDue = due == BAD ? answer == BAD : due == 1 || answer == NO || answer == FULL;
                    boolean same = java.util.Arrays.equals(picture(x, p), pictures[p]);
                    due(each(asDue ? 1 : 0, same ? 1 : 0, k), 1, 1, k);
                }
            }
        }

        private static SqueezedCode made(int state) {
            SqueezedCode x = state == 4 ? written("h".repeat(200)) : written("j50?");
            if (state == 1 || state == 2) {
                for (int i = 0; i < 4; i++) {
                    x.add(i, 2, 0);
                    x.add(i, 2, 1);
                }
                x.start(state - 1);
                x.step(state == 1 ? 20 : 400);
            } else if (state == 3) {
                x.choose(8);
                x.wide(16);
                x.hold(4);
                x.start(1);
                x.step(21);
            }
            return x;
        }

        /** All that an object tells, in parts of fewer than 300 calls; the last part gives changes back. */
        private static int[] picture(SqueezedCode x, int part) {
            int[] all = new int[400];
            int n = 0;
            for (int k = 0; k < 9; k++) {
                all[n++] = x.count(k);
                all[n++] = x.now(k);
                all[n++] = x.size(k % 6);
            }
            if (part == 0) {
                for (int k = 0; k < 40; k++) {
                    all[n++] = x.code(k % 27, 3);
                    all[n++] = x.seek(k);
                    all[n++] = x.nibble(k);
                }
                return all;
            }
            for (int k = 0; k < 13; k++) {
                all[n++] = x.held(k);
                all[n++] = x.cell(k);
                all[n++] = x.out(k);
                all[n++] = x.line(k / 3, k % 3);
            }
            all[n++] = part == 1 ? x.step(3) : x.fault();
            for (int back = 0; back < 8; back++) {
                for (int e = 0; e < 9; e++) {
                    all[n++] = x.entry(e, part);
                    all[n++] = x.part(e, 1, 1);
                }
                all[n++] = x.undo();
                all[n++] = x.count(1 + back % 3);
            }
            all[n++] = x.wipe();
            return all;
        }

        private static Call[] bad(SqueezedCode like) {
            int length = like.count(0);
            int entries = like.count(1);
            int lines = like.count(4);
            return new Call[] {x -> x.write(31), x -> x.write(127), x -> x.write(LOW), x -> x.code(-1, 0),
                x -> x.code(length, 0), x -> x.code(0, 5), x -> x.add(-1, 2, -1), x -> x.add(length, 2, -1),
                x -> x.add(0, 1, -1), x -> x.add(0, 5, -1), x -> x.add(0, 2, -2), x -> x.add(0, 2, 2), x -> x.add(0, 4, 4),
                x -> x.drop(-1), x -> x.drop(entries), x -> x.drop(HIGH), x -> x.gain(length, 2, -1), x -> x.gain(0, 5, 0),
                x -> x.gain(0, 3, 3), x -> x.choose(0), x -> x.choose(9), x -> x.entry(entries, 0), x -> x.entry(0, 4),
                x -> x.part(entries, 0, 0), x -> x.part(0, -1, 0), x -> x.wide(0), x -> x.wide(12), x -> x.wide(32),
                x -> x.hold(0), x -> x.hold(5), x -> x.size(6), x -> x.nibble(-1), x -> x.address(length), x -> x.at(-1),
                x -> x.line(lines, 0), x -> x.line(0, 3), x -> x.seek(length), x -> x.start(-1), x -> x.start(2),
                x -> x.step(0), x -> x.step(401), x -> x.now(9), x -> x.held(-1), x -> x.cell(10), x -> x.out(-1),
                x -> x.count(9)};
        }

        private static Call[] refusedIn(int state) {
            Call[][] all = {
                {x -> x.lay(), x -> x.add(7, 2, -1), x -> x.add(12, 2, -1), x -> x.gain(12, 2, -1), x -> x.wide(8),
                    x -> x.hold(2), x -> x.undo(), x -> x.step(1), x -> x.now(0), x -> x.held(0), x -> x.cell(0),
                    x -> x.out(0)},
                {x -> x.lay(), x -> x.add(0, 2, 0), x -> x.add(0, 3, 0), x -> x.gain(0, 2, 0), x -> x.gain(0, 3, 0),
                    x -> x.choose(1), x -> x.choose(8), x -> x.wide(8), x -> x.hold(2)},
                {x -> x.lay(), x -> x.add(0, 3, 0), x -> x.choose(1), x -> x.wide(8), x -> x.hold(2), x -> x.step(1),
                    x -> x.step(400)},
                {x -> x.lay(), x -> x.add(8, 3, 0), x -> x.gain(15, 2, 0), x -> x.wide(16), x -> x.hold(4)},
                {x -> x.lay(), x -> x.write('h'), x -> x.write(32), x -> x.undo(), x -> x.add(13, 3, 0)},
            };
            return all[state];
        }

        private static Call[] asking() {
            return new Call[] {x -> x.fault(), x -> x.gain(0, 2, -1), x -> x.gain(8, 3, 1), x -> x.gain(19, 4, 3),
                x -> x.code(3, 3), x -> x.entry(0, 3), x -> x.entry(0, 2), x -> x.part(0, 0, 0), x -> x.size(3),
                x -> x.nibble(5), x -> x.address(7), x -> x.at(4), x -> x.line(1, 2), x -> x.seek(9), x -> x.now(0),
                x -> x.held(0), x -> x.cell(0), x -> x.out(0), x -> x.count(5)};
        }
    }
}

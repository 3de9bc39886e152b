import java.util.ArrayDeque;
import java.util.ArrayList;
import java.util.Arrays;
import java.util.Deque;
import java.util.LinkedList;
import java.util.List;
import java.util.TreeSet;
import java.util.regex.Matcher;
import java.util.regex.Pattern;

/**
 * Long rows of calls, drawn by a fixed rule, on the class and on a plain model of the document
 * that is written another way: with texts for instructions, and every cover of a line looked at.
 */
public final class ModelTests {
    private static final int ROWS = 400;
    private static final int CALLS = 512;
    private static final int BAD = -1, NO = -2, FULL = -3, NONE = -4, ZERO = 100000;
    private static final String[] CALL_NAMES = {"write", "wipe", "fault", "lay", "code", "add", "drop", "gain",
        "choose", "entry", "part", "wide", "hold", "undo", "size", "nibble", "address", "at", "line", "seek",
        "start", "step", "now", "held", "cell", "out", "count"};

    public static void main(String[] arguments) {
        int rows = arguments.length > 0 ? Integer.parseInt(arguments[0]) : ROWS;
        int wrong = 0;
        int[] spread = new int[CALL_NAMES.length];
        int[] fine = new int[CALL_NAMES.length];
        for (int row = 0; row < rows && wrong < 10; row++) {
            wrong += playRow(row, spread, fine) ? 0 : 1;
        }
        for (int c = 0; c < CALL_NAMES.length; c++) {
            if (fine[c] < rows / 10) {
                wrong++;
                System.out.println(CALL_NAMES[c] + " was answered well only " + fine[c] + " times of " + spread[c]);
            }
        }
        System.out.println(rows + " rows of " + CALLS + " calls, " + wrong + " not as due");
        if (wrong != 0) {
            System.exit(1);
        }
    }

    private static boolean playRow(int row, int[] spread, int[] fine) {
        Draw draw = new Draw(row);
        SqueezedCode x = new SqueezedCode();
        Model m = new Model();
        Deque<int[]> planned = new ArrayDeque<>();
        boolean plainCalls = row % 4 == 3;
        for (int k = 0; k < CALLS; k++) {
            if (planned.isEmpty()) {
                plan(planned, draw, m, plainCalls);
            }
            int[] c = planned.removeFirst();
            int due = onModel(m, c);
            int got = onClass(x, c);
            spread[c[0]]++;
            if (due >= 0) {
                fine[c[0]]++;
            }
            if (got != due) {
                System.out.println("row " + row + ", call " + k + ": " + CALL_NAMES[c[0]] + " "
                        + Arrays.toString(c) + " answered " + got + ", due is " + due + "; program "
                        + String.join("", m.program) + ", table " + m.table + ", W " + m.w);
                return false;
            }
        }
        return true;
    }

    // ---- which calls

    private static void plan(Deque<int[]> planned, Draw draw, Model m, boolean plainCalls) {
        int kind = draw.below(40);
        if (kind == 0 && !plainCalls) {
            planText(planned, draw);
        } else if (kind == 1) {
            planned.add(new int[] {20, draw.below(2), 0, 0});
            for (int k = draw.below(6); k >= 0; k--) {
                planned.add(new int[] {21, draw.below(3) == 0 ? draw.below(400) + 1 : draw.below(12) + 1, 0, 0});
                planned.add(new int[] {22, draw.below(9), 0, 0});
                planned.add(new int[] {23, draw.below(5), 0, 0});
            }
        } else if (kind == 2) {
            planned.add(new int[] {8, draw.below(8) + 1, 0, 0});
        } else if (kind < 6) {
            int n = 2 + draw.below(3);
            planned.add(new int[] {draw.below(3) == 0 ? 7 : 5, draw.below(m.program.size()), n, draw.below(n + 1) - 1});
        } else {
            planned.add(oneCall(draw));
        }
    }

    private static void planText(Deque<int[]> planned, Draw draw) {
        planned.add(new int[] {1, 0, 0, 0});
        String text = draw.program();
        for (int k = 0; k < text.length(); k++) {
            planned.add(new int[] {0, text.charAt(k), 0, 0});
        }
        planned.add(new int[] {2, 0, 0, 0});
        planned.add(new int[] {3, 0, 0, 0});
    }

    private static int[] oneCall(Draw draw) {
        int call = draw.below(CALL_NAMES.length);
        if ((call == 1 || call == 3 || call == 6 || call == 13) && draw.below(3) != 0) {
            call = 9;
        }
        int first = draw.argument(call == 0 ? 128 : call == 15 || call == 17 ? 150 : call == 21 ? 30 : draw.below(2) == 0 ? 10 : 50);
        if (call == 11) {
            first = draw.below(4) == 0 ? draw.argument(18) : 4 << draw.below(3);
        }
        return new int[] {call, first, draw.argument(7), draw.argument(5)};
    }

    private static int onClass(SqueezedCode x, int[] c) {
        switch (c[0]) {
            case 0: return x.write(c[1]);
            case 1: return x.wipe();
            case 2: return x.fault();
            case 3: return x.lay();
            case 4: return x.code(c[1], c[2]);
            case 5: return x.add(c[1], c[2], c[3]);
            case 6: return x.drop(c[1]);
            case 7: return x.gain(c[1], c[2], c[3]);
            case 8: return x.choose(c[1]);
            case 9: return x.entry(c[1], c[2]);
            case 10: return x.part(c[1], c[2], c[3]);
            case 11: return x.wide(c[1]);
            case 12: return x.hold(c[1]);
            case 13: return x.undo();
            case 14: return x.size(c[1]);
            case 15: return x.nibble(c[1]);
            case 16: return x.address(c[1]);
            case 17: return x.at(c[1]);
            case 18: return x.line(c[1], c[2]);
            case 19: return x.seek(c[1]);
            case 20: return x.start(c[1]);
            case 21: return x.step(c[1]);
            case 22: return x.now(c[1]);
            case 23: return x.held(c[1]);
            case 24: return x.cell(c[1]);
            case 25: return x.out(c[1]);
            default: return x.count(c[1]);
        }
    }

    private static int onModel(Model m, int[] c) {
        switch (c[0]) {
            case 0: return m.write(c[1]);
            case 1: return m.wipe();
            case 2: return m.fault();
            case 3: return m.lay();
            case 4: return m.code(c[1], c[2]);
            case 5: return m.add(c[1], c[2], c[3]);
            case 6: return m.drop(c[1]);
            case 7: return m.gain(c[1], c[2], c[3]);
            case 8: return m.choose(c[1]);
            case 9: return m.entry(c[1], c[2]);
            case 10: return m.part(c[1], c[2], c[3]);
            case 11: return m.wide(c[1]);
            case 12: return m.hold(c[1]);
            case 13: return m.undo();
            case 14: return m.size(c[1]);
            case 15: return m.nibble(c[1]);
            case 16: return m.address(c[1]);
            case 17: return m.at(c[1]);
            case 18: return m.line(c[1], c[2]);
            case 19: return m.seek(c[1]);
            case 20: return m.start(c[1]);
            case 21: return m.step(c[1]);
            case 22: return m.now(c[1]);
            case 23: return m.held(c[1]);
            case 24: return m.cell(c[1]);
            case 25: return m.out(c[1]);
            default: return m.count(c[1]);
        }
    }

    /** Numbers by a fixed rule, so that each run of the tests is the same. */
    private static final class Draw {
        private long state;

        Draw(int seed) {
            state = seed * 2654435761L + 12345;
            below(2);
        }

        int below(int bound) {
            state = state * 6364136223846793005L + 1442695040888963407L;
            return (int) ((state >>> 33) % bound);
        }

        int argument(int bound) {
            int kind = below(60);
            if (kind == 0) {
                return Integer.MIN_VALUE;
            }
            if (kind == 1) {
                return Integer.MAX_VALUE;
            }
            return kind < 4 ? -1 - below(3) : below(bound);
        }

        /** A text of repeating pieces, with few figures, at times with a fault. */
        String program() {
            int goal = below(5) == 0 ? 1 + below(6) : 8 + below(41);
            int figures = 1 + below(4);
            int others = below(3) == 0 ? 0 : 4 + below(20);
            List<String> pieces = new ArrayList<>();
            for (int k = 1 + below(4); k >= 0; k--) {
                StringBuilder piece = new StringBuilder();
                for (int n = 1 + below(4); n >= 0; n--) {
                    piece.append("amxslpw".charAt(below(7))).append(below(figures));
                }
                pieces.add(piece.toString());
            }
            List<String> all = new ArrayList<>();
            for (int k = 0; all.size() < goal && k < 400; k++) {
                int kind = others == 0 ? 99 : below(others);
                if (kind == 0) {
                    all.add("qh".substring(below(2)).substring(0, 1));
                } else if (kind < 3) {
                    all.add("jzk".charAt(below(3)) + String.format("%02d", below(goal + (below(40) == 0 ? 3 : 0))));
                } else if (kind == 3) {
                    all.add("amxslpw".charAt(below(7)) + "" + below(10));
                } else {
                    all.addAll(Model.split(pieces.get(below(pieces.size()))));
                }
            }
            String text = String.join("", all);
            return below(12) == 0 ? text + "?jab9 ".charAt(below(6)) : text;
        }
    }

    /** The document in a plain form. */
    private static final class Model {
        private static final Pattern INSTRUCTION = Pattern.compile("[amxslpw][0-9]|[jzk][0-9][0-9]|[qh]");
        private static final String KINDS = "amxslpwjzkqh";

        String text = "";
        List<String> program = split("a5s0a3m2s1w0a5s0a7m2s1w1k14qa1a5s0a9m2s1w2l0z26x1s0j16h");
        /** Each entry a list of instructions, with a _ for the hole. */
        List<List<String>> table = new ArrayList<>();
        int w = 8;
        int c = 2;
        LinkedList<Object[]> past = new LinkedList<>();
        /** The cover: of each instruction its entry, or -1. */
        List<Integer> cover;

        boolean running;
        boolean ended;
        boolean squeezed;
        boolean trapped;
        int next;
        int sum;
        int steps;
        int misses;
        int decoded;
        int[] cells;
        List<Integer> outs;
        LinkedList<Integer> lines;

        Model() {
            cover = best(table);
        }

        static List<String> split(String text) {
            List<String> all = new ArrayList<>();
            Matcher matcher = INSTRUCTION.matcher(text);
            int from = 0;
            while (matcher.region(from, text.length()).lookingAt()) {
                all.add(matcher.group());
                from = matcher.end();
            }
            return all;
        }

        // ---- words

        static int targetOf(String instruction) {
            return instruction.length() == 3 ? Integer.parseInt(instruction.substring(1)) : -1;
        }

        TreeSet<Integer> targets() {
            TreeSet<Integer> all = new TreeSet<>();
            for (String instruction : program) {
                if (instruction.length() == 3) {
                    all.add(targetOf(instruction));
                }
            }
            return all;
        }

        boolean sequence(int i, int n) {
            if (i + n > program.size() || i / w != (i + n - 1) / w) {
                return false;
            }
            TreeSet<Integer> targets = targets();
            for (int k = i; k < i + n; k++) {
                if (program.get(k).length() != 2 || k > i && targets.contains(k)) {
                    return false;
                }
            }
            return true;
        }

        List<String> made(int i, int n, int h) {
            List<String> entry = new ArrayList<>(program.subList(i, i + n));
            if (h >= 0) {
                entry.set(h, entry.get(h).charAt(0) + "_");
            }
            return entry;
        }

        static int holeOf(List<String> entry) {
            for (int k = 0; k < entry.size(); k++) {
                if (entry.get(k).endsWith("_")) {
                    return k;
                }
            }
            return NONE;
        }

        boolean matches(List<String> entry, int i) {
            return sequence(i, entry.size()) && made(i, entry.size(), holeOf(entry)).equals(entry);
        }

        static int alone(String instruction) {
            return instruction.length() == 3 ? 4 : instruction.length();
        }

        static int reference(List<String> entry) {
            return holeOf(entry) < 0 ? 2 : 3;
        }

        // ---- covers: every one of each line

        List<Integer> best(List<List<String>> entries) {
            List<Integer> whole = new ArrayList<>();
            for (int from = 0; from < program.size(); from += w) {
                int to = Math.min(program.size(), from + w);
                List<List<Integer>> found = new ArrayList<>();
                List<Integer> costs = new ArrayList<>();
                boolean[][] fits = new boolean[entries.size()][to];
                for (int e = 0; e < entries.size(); e++) {
                    for (int i = from; i < to; i++) {
                        fits[e][i] = matches(entries.get(e), i);
                    }
                }
                if (w <= 8) {
                    all(entries, fits, from, to, 0, new ArrayList<>(), found, costs);
                    whole.addAll(found.get(0));
                } else {
                    whole.addAll(from(entries, fits, from, to, new ArrayList<>(), new int[17]));
                }
            }
            return whole;
        }

        /** Goes through all covers; found keeps the best till now at its head. */
        void all(List<List<String>> entries, boolean[][] fits, int i, int to, int cost, List<Integer> sofar,
                List<List<Integer>> found, List<Integer> costs) {
            if (i == to) {
                if (found.isEmpty() || cost < costs.get(0)
                        || cost == costs.get(0) && compare(sofar, found.get(0)) < 0) {
                    found.clear();
                    costs.clear();
                    found.add(new ArrayList<>(sofar));
                    costs.add(cost);
                }
                return;
            }
            for (int e = entries.size() - 1; e >= -1; e--) {
                if (e >= 0 && !fits[e][i]) {
                    continue;
                }
                int parts = e < 0 ? 1 : entries.get(e).size();
                for (int k = 0; k < parts; k++) {
                    sofar.add(e);
                }
                all(entries, fits, i + parts, to, cost + (e < 0 ? alone(program.get(i)) : reference(entries.get(e))),
                        sofar, found, costs);
                for (int k = 0; k < parts; k++) {
                    sofar.remove(sofar.size() - 1);
                }
            }
        }

        static int compare(List<Integer> a, List<Integer> b) {
            for (int k = 0; k < a.size(); k++) {
                if (!a.get(k).equals(b.get(k))) {
                    return Integer.compare(a.get(k), b.get(k));
                }
            }
            return 0;
        }

        /** Of wide lines, where all covers are too many, the best of each end of the line. */
        List<Integer> from(List<List<String>> entries, boolean[][] fits, int from, int to, List<Integer> none, int[] cost) {
            List<List<Integer>> ends = new ArrayList<>();
            for (int i = 0; i <= to - from; i++) {
                ends.add(none);
            }
            for (int i = to - 1; i >= from; i--) {
                List<Integer> best = null;
                int least = Integer.MAX_VALUE;
                for (int e = -1; e < entries.size(); e++) {
                    if (e >= 0 && !fits[e][i]) {
                        continue;
                    }
                    int parts = e < 0 ? 1 : entries.get(e).size();
                    int now = cost[i - from + parts] + (e < 0 ? alone(program.get(i)) : reference(entries.get(e)));
                    List<Integer> owners = new ArrayList<>();
                    for (int k = 0; k < parts; k++) {
                        owners.add(e);
                    }
                    owners.addAll(ends.get(i - from + parts));
                    if (now < least || now == least && compare(owners, best) < 0) {
                        best = owners;
                        least = now;
                    }
                }
                ends.set(i - from, best);
                cost[i - from] = least;
            }
            return ends.get(0);
        }

        /** The first instruction of what i is in, by itself or a reference. */
        static int head(List<Integer> cover, List<List<String>> entries, int i) {
            int at = 0;
            while (true) {
                int parts = cover.get(at) < 0 ? 1 : entries.get(cover.get(at)).size();
                if (i < at + parts) {
                    return at;
                }
                at += parts;
            }
        }

        int head(int i) {
            return head(cover, table, i);
        }

        int nibblesAhead(List<Integer> cover, List<List<String>> entries, int i) {
            int nibbles = 0;
            int at = 0;
            while (at < i) {
                int e = cover.get(at);
                nibbles += e < 0 ? alone(program.get(at)) : reference(entries.get(e));
                at += e < 0 ? 1 : entries.get(e).size();
            }
            return nibbles;
        }

        int ahead(int i) {
            return nibblesAhead(cover, table, i);
        }

        int tableSize(List<List<String>> entries) {
            int nibbles = 0;
            for (List<String> entry : entries) {
                nibbles += 1 + 2 * entry.size();
            }
            return nibbles;
        }

        int lineCount() {
            return (program.size() + w - 1) / w;
        }

        int whole(List<List<String>> entries) {
            return nibblesAhead(best(entries), entries, program.size()) + tableSize(entries) + 3 * lineCount();
        }

        StringBuilder squeezedCode() {
            StringBuilder all = new StringBuilder();
            int at = 0;
            while (at < program.size()) {
                String instruction = program.get(at);
                int e = cover.get(at);
                if (e >= 0) {
                    all.append('f').append(e);
                    int hole = holeOf(table.get(e));
                    if (hole >= 0) {
                        all.append(program.get(at + hole).charAt(1));
                    }
                    at += table.get(e).size();
                    continue;
                }
                all.append(Integer.toHexString(KINDS.indexOf(instruction.charAt(0))));
                if (instruction.length() == 2) {
                    all.append(instruction.charAt(1));
                } else if (instruction.length() == 3) {
                    all.append(String.format("%03x", ahead(targetOf(instruction))));
                }
                at++;
            }
            return all;
        }

        int referencesIn(int from, int to) {
            int found = 0;
            for (int i = from; i < to && i < program.size(); i++) {
                if (cover.get(i) >= 0 && head(i) == i) {
                    found++;
                }
            }
            return found;
        }

        // ---- changes

        void keep() {
            past.addLast(new Object[] {new ArrayList<>(table), w, c});
            if (past.size() > 6) {
                past.removeFirst();
            }
        }

        void settle() {
            running = false;
            cover = best(table);
        }

        // ---- the calls

        int write(int letter) {
            if (letter < 32 || letter > 126) {
                return BAD;
            }
            if (text.length() >= 200) {
                return FULL;
            }
            text += (char) letter;
            return text.length();
        }

        int wipe() {
            int was = text.length();
            text = "";
            return was;
        }

        int fault() {
            List<String> all = split(text);
            if (all.size() > 48) {
                return String.join("", all.subList(0, 48)).length();
            }
            String told = String.join("", all);
            if (told.length() < text.length()) {
                return told.length();
            }
            for (int i = 0; i < all.size(); i++) {
                if (targetOf(all.get(i)) >= all.size()) {
                    return String.join("", all.subList(0, i)).length();
                }
            }
            return NONE;
        }

        int lay() {
            if (fault() != NONE || text.isEmpty()) {
                return NO;
            }
            program = split(text);
            table = new ArrayList<>();
            past.clear();
            settle();
            return program.size();
        }

        boolean no(int i) {
            return i < 0 || i >= program.size();
        }

        int code(int i, int what) {
            if (no(i) || what < 0 || what > 4) {
                return BAD;
            }
            String instruction = program.get(i);
            switch (what) {
                case 0: return instruction.charAt(0);
                case 1: return instruction.length() == 1 ? NONE : Integer.parseInt(instruction.substring(1));
                case 2: return targets().contains(i) ? 1 : 0;
                case 3: return cover.get(i) < 0 ? NONE : cover.get(i);
                default: return cover.get(i) < 0 ? NONE : i - head(i);
            }
        }

        int hindrance(int i, int n, int h) {
            if (no(i) || n < 2 || n > 4 || h < -1 || h > n - 1) {
                return BAD;
            }
            if (!sequence(i, n) || table.contains(made(i, n, h))) {
                return NO;
            }
            return table.size() == 8 ? FULL : 0;
        }

        int add(int i, int n, int h) {
            int hindrance = hindrance(i, n, h);
            if (hindrance != 0) {
                return hindrance;
            }
            keep();
            table.add(made(i, n, h));
            settle();
            return table.size() - 1;
        }

        int drop(int e) {
            if (e < 0 || e >= table.size()) {
                return BAD;
            }
            keep();
            table.remove(e);
            settle();
            return table.size();
        }

        int gained(int i, int n, int h) {
            List<List<String>> more = new ArrayList<>(table);
            more.add(made(i, n, h));
            return whole(table) - whole(more);
        }

        int gain(int i, int n, int h) {
            int hindrance = hindrance(i, n, h);
            return hindrance != 0 ? hindrance : gained(i, n, h) + ZERO;
        }

        int choose(int n) {
            if (n < 1 || n > 8) {
                return BAD;
            }
            List<List<String>> was = new ArrayList<>(table);
            for (int k = 0; k < n && table.size() < 8; k++) {
                int[] chosen = null;
                for (int i = 0; i < program.size(); i++) {
                    for (int parts = 2; parts <= 4; parts++) {
                        for (int h = -1; h < parts; h++) {
                            if (sequence(i, parts)) {
                                int[] other = {-gained(i, parts, h), parts, h, i};
                                if (other[0] < 0 && (chosen == null || Arrays.compare(other, chosen) < 0)) {
                                    chosen = other;
                                }
                            }
                        }
                    }
                }
                if (chosen == null) {
                    break;
                }
                table.add(made(chosen[3], chosen[1], chosen[2]));
            }
            int more = table.size() - was.size();
            if (more == 0) {
                return NO;
            }
            List<List<String>> now = table;
            table = was;
            keep();
            table = now;
            settle();
            return more;
        }

        int entry(int e, int what) {
            if (e < 0 || e >= table.size() || what < 0 || what > 3) {
                return BAD;
            }
            int references = 0;
            int matching = 0;
            for (int i = 0; i < program.size(); i++) {
                if (cover.get(i) == e && head(i) == i) {
                    references++;
                }
                if (matches(table.get(e), i)) {
                    matching++;
                }
            }
            return new int[] {table.get(e).size(), holeOf(table.get(e)), references, matching}[what];
        }

        int part(int e, int i, int what) {
            if (e < 0 || e >= table.size() || i < 0 || what < 0 || what > 1) {
                return BAD;
            }
            if (i >= table.get(e).size()) {
                return NONE;
            }
            char letter = table.get(e).get(i).charAt(what);
            return what == 0 ? letter : letter == '_' ? NONE : letter - '0';
        }

        int wide(int to) {
            if (to != 4 && to != 8 && to != 16) {
                return BAD;
            }
            int was = w;
            if (to == w) {
                return NO;
            }
            keep();
            w = to;
            settle();
            return was;
        }

        int hold(int to) {
            if (to < 1 || to > 4) {
                return BAD;
            }
            int was = c;
            if (to == c) {
                return NO;
            }
            keep();
            c = to;
            settle();
            return was;
        }

        @SuppressWarnings("unchecked")
        int undo() {
            if (past.isEmpty()) {
                return NO;
            }
            Object[] was = past.removeLast();
            table = (List<List<String>>) was[0];
            w = (Integer) was[1];
            c = (Integer) was[2];
            settle();
            return past.size();
        }

        int size(int what) {
            int byItself = 0;
            for (String instruction : program) {
                byItself += alone(instruction);
            }
            switch (what) {
                case 0: return squeezedCode().length();
                case 1: return tableSize(table);
                case 2: return 3 * lineCount();
                case 3: return whole(table);
                case 4: return byItself;
                case 5: return referencesIn(0, program.size());
                default: return BAD;
            }
        }

        int nibble(int i) {
            StringBuilder all = squeezedCode();
            return i < 0 ? BAD : i >= all.length() ? NONE : Character.digit(all.charAt(i), 16);
        }

        int address(int i) {
            return no(i) ? BAD : head(i) != i ? NONE : ahead(i);
        }

        int at(int address) {
            if (address < 0) {
                return BAD;
            }
            for (int i = 0; i < program.size(); i++) {
                if (head(i) == i && ahead(i) == address) {
                    return i;
                }
            }
            return NONE;
        }

        int lineNibbles(int l) {
            return ahead(Math.min(program.size(), (l + 1) * w)) - ahead(l * w);
        }

        int line(int l, int what) {
            if (l < 0 || l >= lineCount() || what < 0 || what > 2) {
                return BAD;
            }
            return new int[] {ahead(l * w), lineNibbles(l), referencesIn(l * w, l * w + w)}[what];
        }

        int seek(int i) {
            if (no(i)) {
                return BAD;
            }
            int behind = head(i) + (cover.get(i) < 0 ? 1 : table.get(cover.get(i)).size());
            return ahead(behind) - ahead(i / w * w);
        }

        int start(int kind) {
            if (kind != 0 && kind != 1) {
                return BAD;
            }
            running = true;
            ended = false;
            squeezed = kind == 1;
            trapped = false;
            next = 0;
            sum = 0;
            steps = 0;
            misses = 0;
            decoded = 0;
            cells = new int[10];
            outs = new ArrayList<>();
            lines = new LinkedList<>();
            return 0;
        }

        int step(int n) {
            if (n < 1 || n > 400) {
                return BAD;
            }
            if (!running || ended) {
                return NO;
            }
            int done = 0;
            while (done < n && !ended) {
                if (program.get(next).charAt(0) == 'w' && outs.size() == 12) {
                    ended = true;
                    break;
                }
                oneStep();
                done++;
            }
            return done;
        }

        void oneStep() {
            Integer line = next / w;
            if (squeezed && !lines.remove(line)) {
                misses++;
                decoded += lineNibbles(line);
            }
            if (squeezed) {
                lines.addFirst(line);
                while (lines.size() > c) {
                    lines.removeLast();
                }
            }
            String instruction = program.get(next);
            int value = instruction.length() == 1 ? -1 : Integer.parseInt(instruction.substring(1));
            steps++;
            int after = next + 1;
            switch (instruction.charAt(0)) {
                case 'a': sum = (sum + value) % 65536; break;
                case 'm': sum = sum * value % 65536; break;
                case 'x': sum = (sum | value) - (sum & value); break;
                case 's': cells[value] = sum; break;
                case 'l': sum = cells[value]; break;
                case 'p': sum = (sum + cells[value]) % 65536; break;
                case 'w': outs.add((sum + value) % 65536); break;
                case 'j': after = value; break;
                case 'z': after = sum == 0 ? value : after; break;
                case 'k': sum = squeezed ? ahead(value) : value; break;
                case 'q':
                    after = -1;
                    for (String other : program) {
                        if (other.charAt(0) == 'k' && (squeezed ? ahead(targetOf(other)) : targetOf(other)) == sum) {
                            after = targetOf(other);
                        }
                    }
                    trapped = after < 0;
                    break;
                default: after = -1; break;
            }
            next = after;
            ended = no(next);
        }

        int now(int what) {
            if (what < 0 || what > 8) {
                return BAD;
            }
            if (!running) {
                return NO;
            }
            return new int[] {ended ? NONE : next, sum, steps, outs.size(), trapped ? 1 : 0, misses, decoded,
                lines.size(), squeezed ? 1 : 0}[what];
        }

        int held(int i) {
            return i < 0 ? BAD : !running ? NO : i >= lines.size() ? NONE : lines.get(i);
        }

        int cell(int k) {
            return k < 0 || k > 9 ? BAD : !running ? NO : cells[k];
        }

        int out(int i) {
            return i < 0 ? BAD : !running ? NO : i >= outs.size() ? NONE : outs.get(i);
        }

        int count(int what) {
            if (what < 0 || what > 8) {
                return BAD;
            }
            return new int[] {program.size(), table.size(), w, c, lineCount(), targets().size(), past.size(),
                text.length(), running ? 1 : 0}[what];
        }
    }
}

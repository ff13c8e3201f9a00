import java.util.ArrayList;
import java.util.Collections;
import java.util.List;
import java.util.Map;
import java.util.NoSuchElementException;
import java.util.Random;
import java.util.TreeMap;

/** Runs of random calls (fixed seeds), each answer compared with that of a model written anew from the document. */
public final class ModelTest {
    private static final int RUNS = 12000;
    private static final int CALLS = 512;
    private static final int MOST_TOLD = 20;
    private static final String[] EVENTS = {
        "short", "ring", "matrix ring", "limits", "moved lower", "unbalanced", "split open", "split other", "split held",
        "many cells", "nested matrix", "fraction in script", "cramped upper", "style in list", "120 nodes", "30 lists",
        "full fence", "full matrix", "full split", "bound binary", "loose binary", "scripts on inner", "step 0", "step 1",
        "step 2", "step 3", "step 4"
    };

    private static final Map<String, Integer> seen = new TreeMap<>();

    private static void event(String name) {
        seen.merge(name, 1, Integer::sum);
    }

    private static final class Row {
        final int number;
        final List<Piece> pieces = new ArrayList<>();
        Piece in;

        Row(int number) {
            this.number = number;
        }

        boolean reaches(Row other) {
            if (this == other) {
                return true;
            }
            for (Piece piece : pieces) {
                for (Row part : piece.allRows()) {
                    if (part.reaches(other)) {
                        return true;
                    }
                }
            }
            return false;
        }

        List<Piece> atoms() {
            List<Piece> atoms = new ArrayList<>();
            for (Piece piece : pieces) {
                if (piece.form != 's') {
                    atoms.add(piece);
                }
            }
            return atoms;
        }

        int[] counted() {
            List<Piece> atoms = atoms();
            int[] kinds = new int[atoms.size()];
            for (int i = 0; i < kinds.length; i++) {
                kinds[i] = atoms.get(i).kind;
                if (kinds[i] == 2) {
                    boolean loose = i == 0 || "12346".indexOf('0' + kinds[i - 1]) >= 0
                        || i + 1 == kinds.length || "356".indexOf('0' + atoms.get(i + 1).kind) >= 0;
                    event(loose ? "loose binary" : "bound binary");
                    kinds[i] = loose ? 0 : 2;
                }
            }
            return kinds;
        }
    }

    /** A node: form c sign, f fraction, d fence, m matrix, s style. */
    private static final class Piece {
        final int number;
        final char form;
        final int kind;
        int sign;
        int left;
        int right;
        int columns;
        long rule;
        int style;
        boolean cramped;
        Row home;
        Row upper;
        Row lower;
        final List<Row> rows = new ArrayList<>();

        Piece(int number, char form, int kind) {
            this.number = number;
            this.form = form;
            this.kind = kind;
        }

        List<Row> allRows() {
            List<Row> all = new ArrayList<>(rows);
            if (upper != null) {
                all.add(upper);
            }
            if (lower != null) {
                all.add(lower);
            }
            return all;
        }
    }

    private static final class Area {
        int w;
        int h;
        int d;
        final List<int[]> items = new ArrayList<>();

        Area at(int x, int y, Area part) {
            for (int[] item : part.items) {
                int[] copy = item.clone();
                copy[1] += x;
                copy[2] += y;
                items.add(copy);
            }
            h = Math.max(h, y + part.h);
            d = Math.max(d, part.d - y);
            return this;
        }
    }

    private static final class Model {
        final List<Row> lists = new ArrayList<>();
        final List<Piece> nodes = new ArrayList<>();
        Row open;
        Area last = new Area();

        Model() {
            open = new Row(0);
            lists.add(open);
        }

        Row row(int list) {
            if (list < 0 || list >= lists.size()) {
                throw new NoSuchElementException();
            }
            return lists.get(list);
        }

        Piece piece(int node) {
            if (node < 0 || node >= nodes.size() || nodes.get(node).form == 's') {
                throw new NoSuchElementException();
            }
            return nodes.get(node);
        }

        void full() {
            if (nodes.size() == 120) {
                event("120 nodes");
                throw new UnsupportedOperationException();
            }
        }

        boolean free(Row row) {
            return row.in == null && row.number != 0;
        }

        void usable(Row row, Row home) {
            if (!free(row)) {
                throw new IllegalStateException();
            }
            if (row.reaches(home)) {
                if (row != home) {
                    event("ring");
                }
                throw new IllegalStateException();
            }
        }

        int add(Piece piece) {
            piece.home = open;
            open.pieces.add(piece);
            nodes.add(piece);
            for (Row row : piece.rows) {
                row.in = piece;
            }
            return piece.number;
        }

        int atom(int kind, int nucleus) {
            if (kind < 0 || kind > 8 || kind < 8 && (nucleus < 0 || nucleus > 255)) {
                throw new IllegalArgumentException();
            }
            if (kind == 8) {
                if (lists.size() == 30) {
                    event("30 lists");
                    throw new UnsupportedOperationException();
                }
                open = new Row(lists.size());
                lists.add(open);
                return open.number;
            }
            full();
            Piece piece = new Piece(nodes.size(), 'c', kind);
            piece.sign = nucleus;
            return add(piece);
        }

        int script(int atom, boolean upper, int list) {
            Piece piece = piece(atom);
            Row row = row(list);
            if ((upper ? piece.upper : piece.lower) != null) {
                throw new IllegalStateException();
            }
            usable(row, piece.home);
            row.in = piece;
            if (upper) {
                piece.upper = row;
            } else {
                piece.lower = row;
            }
            return piece.upper != null && piece.lower != null ? 2 : 1;
        }

        int fraction(int over, int under, long rule) {
            Row a = row(over);
            Row b = row(under);
            if (rule > 1000) {
                throw new IllegalArgumentException();
            }
            if (a == b) {
                throw new IllegalStateException();
            }
            usable(a, open);
            usable(b, open);
            full();
            Piece piece = new Piece(nodes.size(), 'f', 7);
            piece.rows.add(a);
            piece.rows.add(b);
            piece.rule = rule;
            return add(piece);
        }

        int fence(int left, int list, int right) {
            Row row = row(list);
            if (left < 0 || left > 5 || right < 0 || right > 5) {
                throw new IllegalArgumentException();
            }
            usable(row, open);
            if (nodes.size() == 120) {
                event("full fence");
            }
            full();
            boolean same = left == right && left != 0;
            boolean half = (left == 0) != (right == 0);
            if (!same && !half) {
                event("unbalanced");
                return 0;
            }
            Piece piece = new Piece(nodes.size(), 'd', 7);
            piece.rows.add(row);
            piece.left = left;
            piece.right = right;
            return add(piece) + 1;
        }

        int matrix(int rows, int columns) {
            if (nodes.size() == 120) {
                event("full matrix");
            }
            full();
            if (rows < 1 || rows > 5 || columns < 1 || columns > 5) {
                return 0;
            }
            List<Row> candidates = new ArrayList<>();
            for (Row row : lists) {
                if (free(row) && row != open) {
                    candidates.add(row);
                }
            }
            int from = candidates.size() - rows * columns;
            if (from < 0) {
                return 0;
            }
            Piece piece = new Piece(nodes.size(), 'm', 7);
            for (Row row : candidates.subList(from, candidates.size())) {
                if (row.reaches(open)) {
                    event("matrix ring");
                    return 0;
                }
                piece.rows.add(row);
            }
            if (rows > 1 && columns > 1) {
                event("many cells");
            }
            piece.columns = columns;
            return add(piece) + 1;
        }

        int style(int s, boolean cramped) {
            if (s < 0 || s > 3) {
                throw new IllegalArgumentException();
            }
            full();
            Piece piece = new Piece(nodes.size(), 's', -1);
            piece.style = s;
            piece.cramped = cramped;
            return add(piece);
        }

        int run(int list) {
            last = lay(row(list), 0, false);
            return last.items.size();
        }

        int item(int i, int what) {
            if (i == -1 && what >= 0 && what < 3) {
                return new int[] {last.w, last.h, last.d}[what];
            }
            if (i < 0 || i >= last.items.size() || what < 0 || what > 7) {
                throw new IndexOutOfBoundsException();
            }
            return last.items.get(i)[what];
        }

        static final String[] TABLE = {"01bc000a", "110c000a", "bb00b00b", "cc00c00c", "00000000", "01bc000a", "aa0aaaaa", "a1bca0aa"};

        static int wide(int a, int b, int style) {
            char c = TABLE[a].charAt(b);
            if (c == '0' || c == '1') {
                return c - '0';
            }
            return style < 2 ? c - 'a' + 1 : 0;
        }

        int space(int a, int b) {
            if (a < 0 || a > 7 || b < 0 || b > 7) {
                throw new IllegalArgumentException();
            }
            return wide(a, b, 0);
        }

        int kind(int i) {
            Piece piece = piece(i);
            return piece.home.counted()[piece.home.atoms().indexOf(piece)];
        }

        int split(int list, int i) {
            Row row = row(list);
            List<Piece> relations = new ArrayList<>();
            for (Piece piece : row.pieces) {
                if (piece.kind == 3) {
                    relations.add(piece);
                }
            }
            if (i < 0 || i >= relations.size()) {
                throw new IndexOutOfBoundsException();
            }
            if (lists.size() == 30) {
                event("full split");
                throw new UnsupportedOperationException();
            }
            Row tail = new Row(lists.size());
            lists.add(tail);
            List<Piece> moved = row.pieces.subList(row.pieces.indexOf(relations.get(i)), row.pieces.size());
            tail.pieces.addAll(moved);
            moved.clear();
            for (Piece piece : tail.pieces) {
                piece.home = tail;
            }
            event(row == open ? "split open" : "split other");
            if (row.in != null) {
                event("split held");
            }
            open = row == open ? tail : open;
            return tail.number;
        }

        static int z(int style) {
            return new int[] {10, 10, 7, 5}[style];
        }

        Area lay(Row row, int startStyle, boolean startCramped) {
            Area all = new Area();
            int style = startStyle;
            boolean cramped = startCramped;
            int[] kinds = row.counted();
            int seenAtoms = 0;
            for (Piece piece : row.pieces) {
                if (piece.form == 's') {
                    event("style in list");
                    style = piece.style;
                    cramped = piece.cramped;
                    continue;
                }
                if (seenAtoms > 0) {
                    all.w += wide(kinds[seenAtoms - 1], kinds[seenAtoms], style) * z(style);
                }
                Area atom = whole(piece, style, cramped);
                all.at(all.w, 0, atom);
                all.w += atom.w;
                seenAtoms++;
            }
            return all;
        }

        Area whole(Piece piece, int style, boolean cramped) {
            Area nucleus = nucleus(piece, style, cramped);
            if (piece.upper == null && piece.lower == null) {
                return nucleus;
            }
            if (piece.kind == 7) {
                event("scripts on inner");
            }
            if (cramped && piece.upper != null) {
                event("cramped upper");
            }
            int below = style < 2 ? 2 : 3;
            Area up = piece.upper == null ? null : lay(piece.upper, below, cramped);
            Area low = piece.lower == null ? null : lay(piece.lower, below, true);
            return piece.kind == 1 && style == 0 ? limits(nucleus, up, low) : beside(nucleus, up, low, z(style), cramped);
        }

        Area limits(Area nucleus, Area up, Area low) {
            event("limits");
            Area all = new Area();
            all.w = nucleus.w;
            all.w = up == null ? all.w : Math.max(all.w, up.w);
            all.w = low == null ? all.w : Math.max(all.w, low.w);
            all.at((all.w - nucleus.w) / 2, 0, nucleus);
            if (up != null) {
                all.at((all.w - up.w) / 2, nucleus.h + 10 + up.d, up);
            }
            if (low != null) {
                all.at((all.w - low.w) / 2, -(nucleus.d + 10 + low.h), low);
            }
            return all;
        }

        Area beside(Area nucleus, Area up, Area low, int z, boolean cramped) {
            Area all = new Area();
            all.at(0, 0, nucleus);
            int upperLine = 0;
            int more = 0;
            if (up != null) {
                upperLine = Math.max(Math.max(nucleus.h - 2 * z, (cramped ? 3 : 4) * z), up.d + z);
                all.at(nucleus.w, upperLine, up);
                more = up.w;
            }
            if (low != null) {
                int lowerLine = -Math.max(Math.max(nucleus.d + z, 2 * z), low.h - 4 * z);
                if (up != null && upperLine - up.d < lowerLine + low.h + z) {
                    event("moved lower");
                    lowerLine = upperLine - up.d - z - low.h;
                }
                all.at(nucleus.w, lowerLine, low);
                more = Math.max(more, low.w);
            }
            all.w = nucleus.w + more + z / 2;
            return all;
        }

        Area nucleus(Piece piece, int style, boolean cramped) {
            switch (piece.form) {
                case 'f': return fractionArea(piece, style, cramped);
                case 'd': return fenceArea(piece, style, cramped);
                case 'm': return matrixArea(piece, style);
                default: return signArea(piece, style);
            }
        }

        Area signArea(Piece piece, int style) {
            int size = piece.kind == 1 && style == 0 ? 14 : z(style);
            Area all = new Area();
            all.w = size * (4 + piece.sign % 5);
            all.h = size * (5 + piece.sign % 3);
            all.d = piece.sign % 4 == 3 ? 2 * size : 0;
            all.items.add(new int[] {0, 0, 0, size, all.w, piece.sign, piece.number, 0});
            return all;
        }

        Area fractionArea(Piece piece, int style, boolean cramped) {
            if (style >= 2) {
                event("fraction in script");
            }
            int next = Math.min(style + 1, 3);
            Area up = lay(piece.rows.get(0), next, cramped);
            Area low = lay(piece.rows.get(1), next, true);
            int z = z(style);
            int t = piece.rule < 0 ? z / 2 : (int) piece.rule;
            int g = style == 0 ? 3 * z : z;
            int axis = 2 * z;
            Area all = new Area();
            all.w = Math.max(up.w, low.w) + z;
            all.at((all.w - up.w) / 2, axis + t / 2 + g + up.d, up);
            all.at((all.w - low.w) / 2, -(low.h + g + t - t / 2 - axis), low);
            if (t > 0) {
                Area rule = new Area();
                rule.h = t;
                rule.items.add(new int[] {1, 0, 0, t, all.w, 0, piece.number, 0});
                all.at(0, axis - (t - t / 2), rule);
            }
            return all;
        }

        Area fenceArea(Piece piece, int style, boolean cramped) {
            Area inner = lay(piece.rows.get(0), style, cramped);
            int axis = 2 * z(style);
            int must = 2 * Math.max(inner.h - axis, inner.d + axis);
            Area left = delimiter(piece, piece.left, style, must);
            Area right = delimiter(piece, piece.right, style, must);
            Area all = new Area();
            all.at(0, 0, left).at(left.w, 0, inner).at(left.w + inner.w, 0, right);
            all.w = left.w + inner.w + right.w;
            return all;
        }

        Area delimiter(Piece piece, int which, int style, int must) {
            int z = z(style);
            Area all = new Area();
            if (which == 0) {
                all.w = z / 2;
                return all;
            }
            int isShort = 1;
            int step = 4;
            for (int s = 4; s >= 0; s--) {
                if (10 * z * (6 + 4 * s) >= 9 * must) {
                    step = s;
                    isShort = 0;
                }
            }
            event(isShort == 1 ? "short" : "step " + step);
            int high = z * (6 + 4 * step);
            all.w = z * (2 + which % 3);
            all.h = 2 * z + high / 2;
            all.d = high - all.h;
            all.items.add(new int[] {2, 0, 0, step, all.w, which, piece.number, isShort});
            return all;
        }

        Area matrixArea(Piece piece, int style) {
            int columns = piece.columns;
            int rows = piece.rows.size() / columns;
            int z = z(style);
            Area[] cells = new Area[piece.rows.size()];
            int[] wide = new int[columns];
            int[] high = new int[rows];
            int[] deep = new int[rows];
            for (int i = 0; i < cells.length; i++) {
                for (Piece inner : piece.rows.get(i).pieces) {
                    if (inner.form == 'm') {
                        event("nested matrix");
                    }
                }
                cells[i] = lay(piece.rows.get(i), style == 0 ? 1 : style, false);
                wide[i % columns] = Math.max(wide[i % columns], cells[i].w);
                high[i / columns] = Math.max(high[i / columns], cells[i].h);
                deep[i / columns] = Math.max(deep[i / columns], cells[i].d);
            }
            int total = -2 * z;
            for (int r = 0; r < rows; r++) {
                total += high[r] + deep[r] + 2 * z;
            }
            int[] lines = new int[rows];
            int bottom = 2 * z - total / 2;
            for (int r = rows - 1; r >= 0; r--) {
                lines[r] = bottom + deep[r];
                bottom = lines[r] + high[r] + 2 * z;
            }
            Area all = new Area();
            for (int i = 0; i < cells.length; i++) {
                int x = 0;
                for (int c = 0; c < i % columns; c++) {
                    x += wide[c] + 3 * z;
                }
                all.at(x + (wide[i % columns] - cells[i].w) / 2, lines[i / columns], cells[i]);
            }
            all.w = -3 * z;
            for (int w : wide) {
                all.w += w + 3 * z;
            }
            return all;
        }
    }

    private interface Call {
        int answer();
    }

    /** What a call answered, as a text: its number, or the exact class that it threw. */
    private static String outcome(Call call) {
        try {
            return "" + call.answer();
        } catch (RuntimeException e) {
            return "throws." + e.getClass().getName();
        }
    }

    private static int wrong = 0;
    private static int callsLeft = 0;

    /** Behind the last call that an object is used for, every answer is free. */
    private static void same(int seed, String text, Call real, Call model) {
        if (callsLeft == 0) {
            return;
        }
        callsLeft--;
        String got = outcome(real);
        String want = outcome(model);
        if (!got.equals(want)) {
            wrong++;
            if (wrong <= MOST_TOLD) {
                System.out.println("run " + seed + ": " + text + " answered " + got + ", due is " + want);
            }
        }
    }

    private static final int[] EXTREMES = {-1, -2, 5, 6, 8, 9, 30, 120, 255, 256, Integer.MIN_VALUE, Integer.MAX_VALUE, 65536};

    private static int pick(Random random, int from, int to) {
        if (random.nextInt(25) == 0) {
            return EXTREMES[random.nextInt(EXTREMES.length)];
        }
        return from + random.nextInt(Math.max(1, to - from + 1));
    }

    /** Mostly a free list, for else most calls would only throw. */
    private static int pickList(Random random, Model model) {
        if (random.nextInt(4) > 0) {
            List<Row> free = new ArrayList<>();
            for (Row row : model.lists) {
                if (model.free(row) && (row != model.open || random.nextInt(4) == 0)) {
                    free.add(row);
                }
            }
            if (!free.isEmpty()) {
                return free.get(random.nextInt(free.size())).number;
            }
        }
        return pick(random, 0, model.lists.size());
    }

    private static void compareLayout(int seed, FormulaLists x, Model model) {
        for (int i = -1; i <= model.last.items.size(); i++) {
            for (int what = 0; what < 8; what++) {
                int item = i;
                int part = what;
                same(seed, "item(" + i + ", " + what + ")", () -> x.item(item, part), () -> model.item(item, part));
            }
        }
    }

    private static void making(int seed, Random random, FormulaLists x, Model model, int[] weights) {
        int choice = random.nextInt(weights[0] + weights[1] + 14);
        if (choice < weights[0]) {
            int kind = pick(random, 0, 7);
            int sign = pick(random, 0, 255);
            same(seed, "atom(" + kind + ", " + sign + ")", () -> x.atom(kind, sign), () -> model.atom(kind, sign));
        } else if (choice < weights[0] + weights[1]) {
            same(seed, "atom(8, 0)", () -> x.atom(8, 0), () -> model.atom(8, 0));
        } else {
            compound(seed, random, x, model, choice - weights[0] - weights[1]);
        }
    }

    private static void compound(int seed, Random random, FormulaLists x, Model model, int choice) {
        int list = pickList(random, model);
        int other = pickList(random, model);
        boolean flag = random.nextBoolean();
        if (choice < 4) {
            int atom = pick(random, 0, model.nodes.size());
            same(seed, "script(" + atom + ", " + flag + ", " + list + ")",
                () -> x.script(atom, flag, list), () -> model.script(atom, flag, list));
        } else if (choice < 6) {
            long[] rules = {-1, 0, 1, 2, 7, 40, 80, 1000, 1001, Long.MIN_VALUE, Long.MAX_VALUE, 1L << 33};
            long rule = random.nextBoolean() ? random.nextInt(100) - 10 : rules[random.nextInt(rules.length)];
            same(seed, "fraction(" + list + ", " + other + ", " + rule + ")",
                () -> x.fraction(list, other, rule), () -> model.fraction(list, other, rule));
        } else if (choice < 9) {
            int left = pick(random, 0, 5);
            int right = flag ? left : random.nextBoolean() ? 0 : pick(random, 0, 5);
            same(seed, "fence(" + left + ", " + list + ", " + right + ")",
                () -> x.fence(left, list, right), () -> model.fence(left, list, right));
        } else if (choice < 10) {
            int rows = pick(random, 1, 3);
            int columns = pick(random, 1, 3);
            same(seed, "matrix(" + rows + ", " + columns + ")", () -> x.matrix(rows, columns), () -> model.matrix(rows, columns));
        } else if (choice < 12) {
            int s = pick(random, 0, 3);
            same(seed, "style(" + s + ", " + flag + ")", () -> x.style(s, flag), () -> model.style(s, flag));
        } else {
            int which = random.nextBoolean() ? list : pick(random, 0, model.lists.size());
            int i = pick(random, 0, 1);
            same(seed, "split(" + which + ", " + i + ")", () -> x.split(which, i), () -> model.split(which, i));
        }
    }

    private static void asking(int seed, Random random, FormulaLists x, Model model) {
        int a = pick(random, 0, 7);
        int b = pick(random, 0, 7);
        int node = pick(random, 0, model.nodes.size());
        int list = pick(random, 0, model.lists.size());
        switch (random.nextInt(4)) {
            case 0:
                same(seed, "space(" + a + ", " + b + ")", () -> x.space(a, b), () -> model.space(a, b));
                break;
            case 1:
                same(seed, "kind(" + node + ")", () -> x.kind(node), () -> model.kind(node));
                break;
            case 2:
                same(seed, "item(" + node + ", " + b + ")", () -> x.item(node, b), () -> model.item(node, b));
                break;
            default:
                same(seed, "run(" + list + ")", () -> x.run(list), () -> model.run(list));
                break;
        }
    }

    private static void oneRun(int seed) {
        Random random = new Random(seed);
        FormulaLists x = new FormulaLists();
        Model model = new Model();
        int[] weights = {2 + random.nextInt(20), 1 + random.nextInt(8)};
        int asked = 1 + random.nextInt(6);
        int calls = 20 + random.nextInt(CALLS - 20);
        callsLeft = CALLS;
        for (int call = 0; call < calls; call++) {
            if (random.nextInt(10) < asked) {
                asking(seed, random, x, model);
            } else {
                making(seed, random, x, model, weights);
            }
        }
        compareLayout(seed, x, model);
        if (random.nextBoolean()) {
            compareKinds(seed, x, model);
        }
        compareLists(seed, random, x, model);
    }

    private static void compareKinds(int seed, FormulaLists x, Model model) {
        for (int node = 0; node < model.nodes.size(); node++) {
            int number = node;
            same(seed, "kind(" + node + ")", () -> x.kind(number), () -> model.kind(number));
        }
    }

    /** In a random order, for there may not be calls enough for all. */
    private static void compareLists(int seed, Random random, FormulaLists x, Model model) {
        List<Row> lists = new ArrayList<>(model.lists);
        Collections.shuffle(lists, random);
        for (Row row : lists) {
            same(seed, "run(" + row.number + ")", () -> x.run(row.number), () -> model.run(row.number));
            compareLayout(seed, x, model);
        }
    }

    public static void main(String[] args) {
        for (int seed = 0; seed < RUNS; seed++) {
            oneRun(seed);
        }
        for (String name : EVENTS) {
            if (!seen.containsKey(name)) {
                wrong++;
                System.out.println("no run came to: " + name);
            }
        }
        if (args.length > 0) {
            System.out.println(seen);
        }
        System.out.println(wrong == 0 ? "all answers are as due" : wrong + " answers are not as due");
        if (wrong != 0) {
            System.exit(1);
        }
    }
}

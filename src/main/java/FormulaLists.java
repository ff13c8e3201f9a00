import java.util.NoSuchElementException;

/** Formulas as lists of atoms, laid out into signs, rules and delimiters; ../shared/DOC.md says what each call does. */
public final class FormulaLists {
    private static final int MOST_LISTS = 30;
    private static final int MOST_NODES = 120;
    /** A node has one item of its own at most, a fence two; but each fence holds a list that no other atom holds. */
    private static final int MOST_ITEMS = MOST_NODES + MOST_LISTS;
    private static final int MOST_BOXES = MOST_LISTS + MOST_NODES;
    private static final int MOST_SIGN = 255;
    private static final int MOST_RULE = 1000;
    private static final int MOST_DELIMITER = 5;
    private static final int MOST_SIDE = 5;
    private static final int NONE = -1;

    private static final int ORDINARY = 0;
    private static final int OPERATOR = 1;
    private static final int BINARY = 2;
    private static final int RELATION = 3;
    private static final int CLOSING = 5;
    private static final int POINT = 6;
    private static final int INNER = 7;
    private static final int KINDS = 8;
    /** Told to atom in a kind's place: a list begins. */
    private static final int NEW_LIST = 8;

    private static final int DISPLAY = 0;
    private static final int TEXT = 1;
    private static final int SCRIPT = 2;
    private static final int SMALL = 3;

    private static final int SIGN = 0;
    private static final int FRACTION = 1;
    private static final int FENCE = 2;
    private static final int MATRIX = 3;
    private static final int STYLE = 4;

    private static final int USUAL_RULE = -1;
    private static final int OPERATOR_SIZE = 14;
    private static final int LAST_STEP = 4;

    /** Rows and columns are kinds: 0 none, 1 thin in every style; 2, 3, 4 thin, medium, thick in display and text alone. */
    private static final int[] SPACES = {
        0, 1, 3, 4, 0, 0, 0, 2,
        1, 1, 0, 4, 0, 0, 0, 2,
        3, 3, 0, 0, 3, 0, 0, 3,
        4, 4, 0, 0, 4, 0, 0, 4,
        0, 0, 0, 0, 0, 0, 0, 0,
        0, 1, 3, 4, 0, 0, 0, 2,
        2, 2, 0, 2, 2, 2, 2, 2,
        2, 1, 3, 4, 2, 0, 2, 2
    };

    private final Book book;
    private final Layout layout;

    public FormulaLists() {
        book = new Book();
        layout = new Layout(book);
    }

    public int atom(int kind, int nucleus) throws IllegalArgumentException, UnsupportedOperationException {
        if (kind == NEW_LIST) {
            needRoomForList();
            int list = book.beginList();
            book.open = list;
            return list;
        }
        if (!isKind(kind)) {
            throw new IllegalArgumentException("no such kind");
        }
        if (nucleus < 0 || nucleus > MOST_SIGN) {
            throw new IllegalArgumentException("no such sign");
        }
        needRoomForNode();
        return book.addNode(SIGN, kind, nucleus, 0, 0);
    }

    public int script(int atom, boolean upper, int list) throws NoSuchElementException, IllegalStateException {
        needAtom(atom);
        needList(list);
        int[] side = upper ? book.upper : book.lower;
        if (side[atom] != NONE) {
            throw new IllegalStateException("the atom has such a script");
        }
        needFree(list, book.home[atom]);
        side[atom] = list;
        book.holder[list] = atom;
        return book.scriptsOf(atom);
    }

    public int fraction(int over, int under, long rule)
            throws NoSuchElementException, IllegalArgumentException, IllegalStateException, UnsupportedOperationException {
        needList(over);
        needList(under);
        if (rule > MOST_RULE) {
            throw new IllegalArgumentException("the rule is too high");
        }
        if (over == under) {
            throw new IllegalStateException("a fraction of one list");
        }
        needFree(over, book.open);
        needFree(under, book.open);
        needRoomForNode();
        int node = book.addNode(FRACTION, INNER, over, under, rule < 0 ? USUAL_RULE : (int) rule);
        book.holder[over] = node;
        book.holder[under] = node;
        return node;
    }

    public int fence(int left, int list, int right)
            throws NoSuchElementException, IllegalArgumentException, IllegalStateException, UnsupportedOperationException {
        needList(list);
        if (left < 0 || left > MOST_DELIMITER || right < 0 || right > MOST_DELIMITER) {
            throw new IllegalArgumentException("no such delimiter");
        }
        needFree(list, book.open);
        needRoomForNode();
        if (!isBalanced(left, right)) {
            return 0;
        }
        int node = book.addNode(FENCE, INNER, left, list, right);
        book.holder[list] = node;
        return node + 1;
    }

    public int matrix(int rows, int columns) throws UnsupportedOperationException {
        needRoomForNode();
        if (rows < 1 || rows > MOST_SIDE || columns < 1 || columns > MOST_SIDE) {
            return 0;
        }
        int from = book.firstOfLastFree(rows * columns);
        if (from == NONE || book.ringsFrom(from)) {
            return 0;
        }
        int node = book.addNode(MATRIX, INNER, book.cellCount, rows, columns);
        book.holdCellsFrom(from, node);
        return node + 1;
    }

    public int style(int s, boolean cramped) throws IllegalArgumentException, UnsupportedOperationException {
        if (s < DISPLAY || s > SMALL) {
            throw new IllegalArgumentException("no such style");
        }
        needRoomForNode();
        return book.addNode(STYLE, ORDINARY, s, cramped ? 1 : 0, 0);
    }

    public int run(int list) throws NoSuchElementException {
        needList(list);
        layout.layOut(list);
        return layout.items.count;
    }

    public int item(int i, int what) throws IndexOutOfBoundsException {
        if (i == -1 && what >= 0 && what <= 2) {
            return what == 0 ? layout.width : what == 1 ? layout.height : layout.depth;
        }
        if (!layout.items.has(i) || what < 0 || what >= Items.PARTS) {
            throw new IndexOutOfBoundsException("no such item");
        }
        return layout.items.part(i, what);
    }

    public int space(int a, int b) throws IllegalArgumentException {
        if (!isKind(a) || !isKind(b)) {
            throw new IllegalArgumentException("no such kind");
        }
        return spaceUnits(a, b, DISPLAY);
    }

    public int kind(int i) throws NoSuchElementException {
        needAtom(i);
        return book.countedKind(i);
    }

    public int split(int list, int i) throws NoSuchElementException, IndexOutOfBoundsException, UnsupportedOperationException {
        needList(list);
        int relation = book.relationOf(list, i);
        if (relation == NONE) {
            throw new IndexOutOfBoundsException("no such relation");
        }
        needRoomForList();
        int tail = book.beginList();
        book.moveFrom(relation, list, tail);
        if (book.open == list) {
            book.open = tail;
        }
        return tail;
    }

    private void needList(int list) {
        if (!book.hasList(list)) {
            throw new NoSuchElementException("no such list");
        }
    }

    private void needAtom(int node) {
        if (!book.hasAtom(node)) {
            throw new NoSuchElementException("no such atom");
        }
    }

    /** The list must be one that may come into an atom that is in the list home. */
    private void needFree(int list, int home) {
        if (!book.isFree(list)) {
            throw new IllegalStateException("the list is not free");
        }
        if (book.wouldRing(list, home)) {
            throw new IllegalStateException("a ring");
        }
    }

    private void needRoomForNode() {
        if (book.nodes >= MOST_NODES) {
            throw new UnsupportedOperationException("too many nodes");
        }
    }

    private void needRoomForList() {
        if (book.lists >= MOST_LISTS) {
            throw new UnsupportedOperationException("too many lists");
        }
    }

    private static boolean isKind(int kind) {
        return kind >= 0 && kind < KINDS;
    }

    private static boolean isBalanced(int left, int right) {
        return left == right ? left != 0 : left == 0 || right == 0;
    }

    /** How many Z stand between two kinds, the second of them in a style. */
    private static int spaceUnits(int a, int b, int style) {
        if (!isKind(a) || !isKind(b)) {
            return 0;
        }
        int code = SPACES[a * KINDS + b];
        if (code <= 1) {
            return code;
        }
        return style <= TEXT ? code - 1 : 0;
    }

    private static int unit(int style) {
        return style <= TEXT ? 10 : style == SCRIPT ? 7 : 5;
    }

    private static int axis(int style) {
        return 2 * unit(style);
    }

    /** The lists and nodes as they were told. A node's number grows along its list, so a list is a walk over all nodes. */
    private static final class Book {
        int nodes = 0;
        int lists = 1;
        int open = 0;
        /** Of a node: the list in which it is. */
        final int[] home = new int[MOST_NODES];
        final int[] form = new int[MOST_NODES];
        final int[] ownKind = new int[MOST_NODES];
        /** Of an atom: its script lists, or NONE. */
        final int[] upper = new int[MOST_NODES];
        final int[] lower = new int[MOST_NODES];
        /**
         * Of a node, by its form. Sign: first is the sign. Fraction: over, under, rule. Fence: left, list, right.
         * Matrix: where its lists begin among the cells, rows, columns. Style: the style, 1 if it is cramped.
         */
        final int[] first = new int[MOST_NODES];
        final int[] second = new int[MOST_NODES];
        final int[] third = new int[MOST_NODES];
        /** Of a list: the atom in which it is, or NONE. */
        final int[] holder = new int[MOST_LISTS];
        /** The lists of all matrices; a list is in one at most, so they have room here. */
        final int[] cells = new int[MOST_LISTS];
        int cellCount = 0;

        Book() {
            holder[0] = NONE;
        }

        boolean hasList(int list) {
            return list >= 0 && list < lists;
        }

        boolean hasAtom(int node) {
            return node >= 0 && node < nodes && form[node] != STYLE;
        }

        boolean isFree(int list) {
            return list != 0 && holder[list] == NONE;
        }

        /** Whether a list that comes into an atom of the list start would come into itself. */
        boolean wouldRing(int list, int start) {
            int at = start;
            for (int step = 0; step < MOST_LISTS; step++) {
                if (at == list) {
                    return true;
                }
                int atom = holder[at];
                if (atom == NONE) {
                    return false;
                }
                at = home[atom];
            }
            return true;
        }

        int beginList() {
            int list = lists;
            holder[list] = NONE;
            lists++;
            return list;
        }

        int addNode(int newForm, int kind, int a, int b, int c) {
            int node = nodes;
            home[node] = open;
            form[node] = newForm;
            ownKind[node] = kind;
            upper[node] = NONE;
            lower[node] = NONE;
            first[node] = a;
            second[node] = b;
            third[node] = c;
            nodes++;
            return node;
        }

        int scriptsOf(int atom) {
            return (upper[atom] != NONE ? 1 : 0) + (lower[atom] != NONE ? 1 : 0);
        }

        private boolean mayBeCell(int list) {
            return list != open && isFree(list);
        }

        /** The list with which the last so many begin that may be cells, or NONE if there are not so many. */
        int firstOfLastFree(int many) {
            int left = many;
            for (int list = lists - 1; list > 0; list--) {
                if (mayBeCell(list)) {
                    left--;
                    if (left == 0) {
                        return list;
                    }
                }
            }
            return NONE;
        }

        boolean ringsFrom(int from) {
            for (int list = from; list < lists; list++) {
                if (mayBeCell(list) && wouldRing(list, open)) {
                    return true;
                }
            }
            return false;
        }

        void holdCellsFrom(int from, int matrix) {
            for (int list = from; list < lists; list++) {
                if (mayBeCell(list) && cellCount < MOST_LISTS) {
                    holder[list] = matrix;
                    cells[cellCount] = list;
                    cellCount++;
                }
            }
        }

        /** The i-th relation of a list, or NONE. */
        int relationOf(int list, int i) {
            int seen = 0;
            for (int node = 0; node < nodes; node++) {
                if (home[node] == list && form[node] != STYLE && ownKind[node] == RELATION) {
                    if (seen == i) {
                        return node;
                    }
                    seen++;
                }
            }
            return NONE;
        }

        void moveFrom(int start, int list, int target) {
            for (int node = start; node < nodes; node++) {
                if (home[node] == list) {
                    home[node] = target;
                }
            }
        }

        /** What an atom counts as, where before is what the one before it counts as (NONE: it is the first). */
        int countsAs(int atom, int before) {
            if (ownKind[atom] != BINARY) {
                return ownKind[atom];
            }
            return bindsBehind(before) && bindsAhead(kindAfter(atom)) ? BINARY : ORDINARY;
        }

        private static boolean bindsBehind(int before) {
            return before == ORDINARY || before == CLOSING || before == INNER;
        }

        private static boolean bindsAhead(int next) {
            return next != NONE && next != RELATION && next != CLOSING && next != POINT;
        }

        /** The own kind of the atom behind this one in its list, or NONE. */
        private int kindAfter(int atom) {
            for (int node = atom + 1; node < nodes; node++) {
                if (home[node] == home[atom] && form[node] != STYLE) {
                    return ownKind[node];
                }
            }
            return NONE;
        }

        int countedKind(int atom) {
            int before = NONE;
            for (int node = 0; node < atom; node++) {
                if (home[node] == home[atom] && form[node] != STYLE) {
                    before = countsAs(node, before);
                }
            }
            return countsAs(atom, before);
        }
    }

    /** The items of a layout, as item tells them. */
    private static final class Items {
        static final int PARTS = 8;
        static final int IS_SIGN = 0;
        static final int IS_RULE = 1;
        static final int IS_DELIMITER = 2;
        private static final int X = 1;
        private static final int Y = 2;
        private static final int SIZE = 3;
        private static final int WIDTH = 4;
        private static final int TOLD = 5;
        private static final int NODE = 6;
        private static final int SHORT = 7;

        int count = 0;
        private final int[] parts = new int[MOST_ITEMS * PARTS];

        boolean has(int item) {
            return item >= 0 && item < count;
        }

        int part(int item, int what) {
            return has(item) ? parts[item * PARTS + what] : 0;
        }

        /** A new item at the place 0, 0; told is its sign or delimiter. NONE where the room ends, to which no run comes. */
        int add(int what, int node, int told) {
            if (count >= MOST_ITEMS) {
                return NONE;
            }
            int item = count;
            int at = item * PARTS;
            parts[at] = what;
            parts[at + X] = 0;
            parts[at + Y] = 0;
            parts[at + TOLD] = told;
            parts[at + NODE] = node;
            parts[at + SHORT] = 0;
            count++;
            return item;
        }

        void measure(int item, int size, int width) {
            if (has(item)) {
                parts[item * PARTS + SIZE] = size;
                parts[item * PARTS + WIDTH] = width;
            }
        }

        void markShort(int item) {
            if (has(item)) {
                parts[item * PARTS + SHORT] = 1;
            }
        }

        void shift(int from, int to, int right, int up) {
            for (int item = Math.max(from, 0); item < Math.min(to, count); item++) {
                parts[item * PARTS + X] += right;
                parts[item * PARTS + Y] += up;
            }
        }
    }

    /** A box for each list (at the list's number) and each atom (behind those), with its items from start to before end. */
    private static final class Boxes {
        final int[] width = new int[MOST_BOXES];
        final int[] height = new int[MOST_BOXES];
        final int[] depth = new int[MOST_BOXES];
        final int[] start = new int[MOST_BOXES];
        final int[] end = new int[MOST_BOXES];

        static int ofAtom(int atom) {
            return MOST_LISTS + atom;
        }

        void begin(int box, int item) {
            width[box] = 0;
            height[box] = 0;
            depth[box] = 0;
            start[box] = item;
            end[box] = item;
        }

        /** Makes a box cover something whose line is so far above the box's own. */
        void cover(int box, int line, int partHeight, int partDepth) {
            int top = line + partHeight;
            int bottom = partDepth - line;
            height[box] = top > height[box] ? top : height[box];
            depth[box] = bottom > depth[box] ? bottom : depth[box];
        }

        int widthOf(int list) {
            return list == NONE ? 0 : width[list];
        }

        int heightOf(int list) {
            return list == NONE ? 0 : height[list];
        }

        int depthOf(int list) {
            return list == NONE ? 0 : depth[list];
        }
    }

    /** Lays lists out. Parts are laid out at 0, 0 and then shifted to their places. */
    private static final class Layout {
        private final Book book;
        private final Boxes boxes = new Boxes();
        final Items items = new Items();
        int width = 0;
        int height = 0;
        int depth = 0;

        Layout(Book told) {
            book = told;
        }

        void layOut(int list) {
            items.count = 0;
            layList(list, DISPLAY, false, 0);
            width = boxes.width[list];
            height = boxes.height[list];
            depth = boxes.depth[list];
        }

        /** Each level is another list, so none is as deep as the most lists. */
        private void layList(int list, int listStyle, boolean listCramped, int level) {
            boxes.begin(list, items.count);
            if (level >= MOST_LISTS) {
                return;
            }
            int style = listStyle;
            boolean cramped = listCramped;
            int before = NONE;
            for (int node = 0; node < book.nodes; node++) {
                if (book.home[node] != list) {
                    continue;
                }
                if (book.form[node] == STYLE) {
                    style = book.first[node];
                    cramped = book.second[node] == 1;
                    continue;
                }
                layAtom(node, style, cramped, level);
                int counted = book.countsAs(node, before);
                append(list, node, spaceUnits(before, counted, style) * unit(style));
                before = counted;
            }
            boxes.end[list] = items.count;
        }

        private void append(int list, int atom, int space) {
            int box = Boxes.ofAtom(atom);
            int x = boxes.width[list] + space;
            items.shift(boxes.start[box], boxes.end[box], x, 0);
            boxes.cover(list, 0, boxes.height[box], boxes.depth[box]);
            boxes.width[list] = x + boxes.width[box];
        }

        private void layAtom(int atom, int style, boolean cramped, int level) {
            int box = Boxes.ofAtom(atom);
            boxes.begin(box, items.count);
            switch (book.form[atom]) {
                case FRACTION:
                    layFraction(atom, style, cramped, level);
                    break;
                case FENCE:
                    layFence(atom, style, cramped, level);
                    break;
                case MATRIX:
                    layMatrix(atom, style, level);
                    break;
                default:
                    laySign(atom, style);
                    break;
            }
            boxes.end[box] = items.count;
            if (book.scriptsOf(atom) > 0) {
                layScripts(atom, style, cramped, level);
                boxes.end[box] = items.count;
            }
        }

        private boolean isBigOperator(int atom, int style) {
            return book.ownKind[atom] == OPERATOR && style == DISPLAY;
        }

        private void laySign(int atom, int style) {
            int sign = book.first[atom];
            int size = isBigOperator(atom, style) ? OPERATOR_SIZE : unit(style);
            int box = Boxes.ofAtom(atom);
            boxes.width[box] = size * (4 + sign % 5);
            boxes.cover(box, 0, size * (5 + sign % 3), sign % 4 == 3 ? 2 * size : 0);
            int item = items.add(Items.IS_SIGN, atom, sign);
            items.measure(item, size, boxes.width[box]);
        }

        private void layScripts(int atom, int style, boolean cramped, int level) {
            int scriptStyle = style <= TEXT ? SCRIPT : SMALL;
            int upper = book.upper[atom];
            int lower = book.lower[atom];
            if (upper != NONE) {
                layList(upper, scriptStyle, cramped, level + 1);
            }
            if (lower != NONE) {
                layList(lower, scriptStyle, true, level + 1);
            }
            if (isBigOperator(atom, style)) {
                placeLimits(atom, unit(style));
            } else {
                placeScripts(atom, unit(style), cramped);
            }
        }

        private void placeLimits(int atom, int z) {
            int box = Boxes.ofAtom(atom);
            int upper = book.upper[atom];
            int lower = book.lower[atom];
            int own = boxes.width[box];
            int wide = Math.max(own, Math.max(boxes.widthOf(upper), boxes.widthOf(lower)));
            int up = boxes.height[box] + z + boxes.depthOf(upper);
            int down = boxes.depth[box] + z + boxes.heightOf(lower);
            items.shift(boxes.start[box], boxes.end[box], (wide - own) / 2, 0);
            place(box, upper, (wide - boxes.widthOf(upper)) / 2, up);
            place(box, lower, (wide - boxes.widthOf(lower)) / 2, -down);
            boxes.width[box] = wide;
        }

        private void placeScripts(int atom, int z, boolean cramped) {
            int box = Boxes.ofAtom(atom);
            int upper = book.upper[atom];
            int lower = book.lower[atom];
            int up = Math.max(boxes.height[box] - 2 * z, cramped ? 3 * z : 4 * z);
            up = Math.max(up, boxes.depthOf(upper) + z);
            int down = Math.max(boxes.depth[box] + z, 2 * z);
            down = Math.max(down, boxes.heightOf(lower) - 4 * z);
            if (upper != NONE && lower != NONE) {
                int gap = up - boxes.depthOf(upper) - (boxes.heightOf(lower) - down);
                down += Math.max(0, z - gap);
            }
            int x = boxes.width[box];
            place(box, upper, x, up);
            place(box, lower, x, -down);
            boxes.width[box] = x + Math.max(boxes.widthOf(upper), boxes.widthOf(lower)) + z / 2;
        }

        /** Puts a list that has been laid out into an atom's box; NONE puts nothing. */
        private void place(int box, int list, int x, int line) {
            if (list == NONE) {
                return;
            }
            items.shift(boxes.start[list], boxes.end[list], x, line);
            boxes.cover(box, line, boxes.height[list], boxes.depth[list]);
        }

        private void layFraction(int atom, int style, boolean cramped, int level) {
            int over = book.first[atom];
            int under = book.second[atom];
            int partStyle = style >= SCRIPT ? SMALL : style + 1;
            layList(over, partStyle, cramped, level + 1);
            layList(under, partStyle, true, level + 1);
            int z = unit(style);
            int rule = book.third[atom] < 0 ? z / 2 : book.third[atom];
            int ruleBelow = rule - rule / 2;
            int gap = style == DISPLAY ? 3 * z : z;
            int box = Boxes.ofAtom(atom);
            int wide = Math.max(boxes.width[over], boxes.width[under]) + z;
            int up = axis(style) + rule / 2 + gap + boxes.depth[over];
            int down = boxes.height[under] + gap + ruleBelow - axis(style);
            place(box, over, (wide - boxes.width[over]) / 2, up);
            place(box, under, (wide - boxes.width[under]) / 2, -down);
            if (rule > 0) {
                int item = items.add(Items.IS_RULE, atom, 0);
                items.measure(item, rule, wide);
                items.shift(item, item + 1, 0, axis(style) - ruleBelow);
                boxes.cover(box, axis(style) - ruleBelow, rule, 0);
            }
            boxes.width[box] = wide;
        }

        /** The left delimiter's item comes before the list's, but its step is known behind them. */
        private void layFence(int atom, int style, boolean cramped, int level) {
            int list = book.second[atom];
            int left = addDelimiter(atom, book.first[atom]);
            layList(list, style, cramped, level + 1);
            int right = addDelimiter(atom, book.third[atom]);
            int must = 2 * Math.max(boxes.height[list] - axis(style), boxes.depth[list] + axis(style));
            int box = Boxes.ofAtom(atom);
            int x = setDelimiter(box, left, style, must);
            place(box, list, x, 0);
            x += boxes.width[list];
            int wide = setDelimiter(box, right, style, must);
            if (right != NONE) {
                items.shift(right, right + 1, x, 0);
            }
            boxes.width[box] = x + wide;
        }

        private int addDelimiter(int atom, int delimiter) {
            return delimiter == 0 ? NONE : items.add(Items.IS_DELIMITER, atom, delimiter);
        }

        /** Chooses a delimiter's step and answers its width; NONE is the delimiter that has no item. */
        private int setDelimiter(int box, int item, int style, int must) {
            int z = unit(style);
            if (item == NONE) {
                return z / 2;
            }
            int step = 0;
            while (step < LAST_STEP && !reaches(z, step, must)) {
                step++;
            }
            if (!reaches(z, step, must)) {
                items.markShort(item);
            }
            int wide = z * (2 + items.part(item, Items.TOLD) % 3);
            items.measure(item, step, wide);
            int high = stepHeight(z, step);
            int above = axis(style) + high / 2;
            boxes.cover(box, 0, above, high - above);
            return wide;
        }

        private static int stepHeight(int z, int step) {
            return z * (6 + 4 * step);
        }

        private static boolean reaches(int z, int step, int must) {
            return 10 * stepHeight(z, step) >= 9 * must;
        }

        private void layMatrix(int atom, int style, int level) {
            int rows = book.second[atom];
            int columns = book.third[atom];
            int cellStyle = Math.max(style, TEXT);
            for (int cell = 0; cell < rows * columns; cell++) {
                layList(cellAt(atom, cell), cellStyle, false, level + 1);
            }
            int z = unit(style);
            int whole = 2 * z * (rows - 1);
            for (int row = 0; row < rows; row++) {
                whole += rowHeight(atom, row) + rowDepth(atom, row);
            }
            int top = axis(style) - whole / 2 + whole;
            for (int row = 0; row < rows; row++) {
                int line = top - rowHeight(atom, row);
                placeRow(atom, row, line, 3 * z);
                top = line - rowDepth(atom, row) - 2 * z;
            }
        }

        private void placeRow(int atom, int row, int line, int between) {
            int columns = book.third[atom];
            int box = Boxes.ofAtom(atom);
            int x = 0;
            for (int column = 0; column < columns; column++) {
                int list = cellAt(atom, row * columns + column);
                int wide = columnWidth(atom, column);
                x += column > 0 ? between : 0;
                place(box, list, x + (wide - boxes.width[list]) / 2, line);
                x += wide;
            }
            boxes.width[box] = x;
        }

        private int cellAt(int matrix, int cell) {
            int at = book.first[matrix] + cell;
            return at < book.cellCount ? book.cells[at] : 0;
        }

        private int columnWidth(int matrix, int column) {
            int rows = book.second[matrix];
            int columns = book.third[matrix];
            int most = 0;
            for (int row = 0; row < rows; row++) {
                most = Math.max(most, boxes.width[cellAt(matrix, row * columns + column)]);
            }
            return most;
        }

        private int rowHeight(int matrix, int row) {
            return mostInRow(matrix, row, boxes.height);
        }

        private int rowDepth(int matrix, int row) {
            return mostInRow(matrix, row, boxes.depth);
        }

        private int mostInRow(int matrix, int row, int[] measures) {
            int columns = book.third[matrix];
            int most = 0;
            for (int column = 0; column < columns; column++) {
                most = Math.max(most, measures[cellAt(matrix, row * columns + column)]);
            }
            return most;
        }
    }
}

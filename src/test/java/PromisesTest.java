import java.util.NoSuchElementException;

/** A method for each promise of the document, with answers worked out by hand from its words. */
public final class PromisesTest {
    private interface Call {
        int answer();
    }

    private static int wrong = 0;
    private static String about = "";

    private static void due(String call, int want, Call made) {
        try {
            int got = made.answer();
            if (got != want) {
                tell(call + " answered " + got + ", due is " + want);
            }
        } catch (RuntimeException e) {
            tell(call + " threw " + e.getClass().getName() + ", due is " + want);
        }
    }

    private static void thrown(String call, Class<? extends RuntimeException> want, Call made) {
        try {
            tell(call + " answered " + made.answer() + ", due is " + want.getName());
        } catch (RuntimeException e) {
            if (e.getClass() != want) {
                tell(call + " threw " + e.getClass().getName() + ", due is " + want.getName());
            }
        }
    }

    private static void tell(String text) {
        wrong++;
        System.out.println(about + ": " + text);
    }

    private static final Class<NoSuchElementException> NO_ELEMENT = NoSuchElementException.class;
    private static final Class<IllegalArgumentException> ARGUMENT = IllegalArgumentException.class;
    private static final Class<IllegalStateException> STATE = IllegalStateException.class;
    private static final Class<UnsupportedOperationException> UNSUPPORTED = UnsupportedOperationException.class;
    private static final Class<IndexOutOfBoundsException> INDEX = IndexOutOfBoundsException.class;

    private static void box(FormulaLists x, int width, int height, int depth) {
        due("item(-1, 0)", width, () -> x.item(-1, 0));
        due("item(-1, 1)", height, () -> x.item(-1, 1));
        due("item(-1, 2)", depth, () -> x.item(-1, 2));
    }

    /** An item's parts, in the order of item's second argument. */
    private static void item(FormulaLists x, int i, int... parts) {
        for (int what = 0; what < parts.length; what++) {
            int part = what;
            due("item(" + i + ", " + what + ")", parts[what], () -> x.item(i, part));
        }
    }

    /** A new list with one ordinary sign in it: the list. */
    private static int listOf(FormulaLists x, int sign) {
        int list = x.atom(8, 0);
        x.atom(0, sign);
        return list;
    }

    private static FormulaLists withNodes(int many) {
        FormulaLists x = new FormulaLists();
        for (int i = 0; i < many; i++) {
            x.atom(0, i);
        }
        return x;
    }

    private static void newObject() {
        about = "promise 1";
        FormulaLists x = new FormulaLists();
        box(x, 0, 0, 0);
        thrown("item(0, 0)", INDEX, () -> x.item(0, 0));
        thrown("kind(0)", NO_ELEMENT, () -> x.kind(0));
        thrown("run(1)", NO_ELEMENT, () -> x.run(1));
        due("run(0)", 0, () -> x.run(0));
        box(x, 0, 0, 0);
        due("atom into list 0", 0, () -> x.atom(0, 0));
        due("run(0)", 1, () -> x.run(0));
        thrown("list 0 is not free", STATE, () -> x.fence(1, 0, 1));
        due("the first list", 1, () -> x.atom(8, 0));
    }

    private static void atoms() {
        about = "promise 2";
        FormulaLists x = new FormulaLists();
        due("atom(0, 0)", 0, () -> x.atom(0, 0));
        due("atom(7, 255)", 1, () -> x.atom(7, 255));
        due("a list, nucleus wrong", 1, () -> x.atom(8, -5));
        due("a list, nucleus wrong", 2, () -> x.atom(8, Integer.MAX_VALUE));
        due("atom(3, 1)", 2, () -> x.atom(3, 1));
        due("the atom is in the open list", 1, () -> x.run(2));
        due("list 1 stays empty", 0, () -> x.run(1));
        for (int kind : new int[] {-1, 9, Integer.MIN_VALUE, Integer.MAX_VALUE}) {
            thrown("kind " + kind, ARGUMENT, () -> x.atom(kind, 0));
        }
        for (int sign : new int[] {-1, 256, Integer.MIN_VALUE, Integer.MAX_VALUE}) {
            thrown("sign " + sign, ARGUMENT, () -> x.atom(0, sign));
        }
        due("nothing was made", 3, () -> x.atom(0, 1));
        fullBook();
    }

    private static void fullBook() {
        FormulaLists x = withNodes(119);
        due("node 119", 119, () -> x.atom(0, 1));
        thrown("node 120", UNSUPPORTED, () -> x.atom(0, 1));
        thrown("IllegalArgumentException is first", ARGUMENT, () -> x.atom(9, 1));
        thrown("IllegalArgumentException is first", ARGUMENT, () -> x.atom(0, 256));
        due("a list begins with 120 nodes", 1, () -> x.atom(8, 0));
        due("all nodes are laid out", 120, () -> x.run(0));
        FormulaLists y = new FormulaLists();
        for (int list = 1; list < 30; list++) {
            int number = list;
            due("list " + list, number, () -> y.atom(8, 0));
        }
        thrown("list 30", UNSUPPORTED, () -> y.atom(8, 0));
        due("an atom with 30 lists", 0, () -> y.atom(0, 0));
        due("it is in list 29", 1, () -> y.run(29));
    }

    private static void scripts() {
        about = "promise 3";
        FormulaLists x = new FormulaLists();
        x.atom(0, 0);
        int up = listOf(x, 3);
        int down = listOf(x, 2);
        thrown("no such atom", NO_ELEMENT, () -> x.script(3, true, 99));
        thrown("no such atom", NO_ELEMENT, () -> x.script(-1, true, up));
        thrown("no such list", NO_ELEMENT, () -> x.script(0, true, 3));
        thrown("no such list", NO_ELEMENT, () -> x.script(0, true, -1));
        thrown("list 0", STATE, () -> x.script(1, true, 0));
        thrown("the atom's own list", STATE, () -> x.script(1, true, up));
        due("upper", 1, () -> x.script(0, true, up));
        thrown("it has an upper one", STATE, () -> x.script(0, true, down));
        thrown("the list is not free", STATE, () -> x.script(0, false, up));
        thrown("NoSuchElementException is first", NO_ELEMENT, () -> x.script(0, true, 77));
        due("lower", 2, () -> x.script(0, false, down));
        due("run", 3, () -> x.run(0));
        box(x, 94, 75, 33);
        item(x, 0, 0, 0, 0, 10, 40, 0, 0, 0);
        item(x, 1, 0, 40, 40, 7, 49, 3, 1, 0);
        item(x, 2, 0, 40, -33, 7, 42, 2, 2, 0);
        rings();
        scriptPlaces();
        limits();
    }

    private static void rings() {
        FormulaLists x = new FormulaLists();
        int outer = listOf(x, 0);
        int middle = listOf(x, 0);
        int inner = listOf(x, 0);
        x.script(0, true, middle);
        x.script(1, false, inner);
        thrown("a ring of three", STATE, () -> x.script(2, true, outer));
        thrown("a fraction of one's outer list", STATE, () -> x.fraction(outer, 0, 0));
        x.atom(8, 0);
        due("no ring from elsewhere", 4, () -> x.fence(1, outer, 0));
        int free = x.atom(8, 0);
        x.style(0, false);
        thrown("a style node has no scripts", NO_ELEMENT, () -> x.script(4, true, free));
    }

    private static void scriptPlaces() {
        FormulaLists cramped = new FormulaLists();
        cramped.style(1, true);
        cramped.atom(0, 0);
        cramped.script(1, true, listOf(cramped, 0));
        cramped.run(0);
        box(cramped, 73, 65, 0);
        item(cramped, 1, 0, 40, 30, 7, 28);
        FormulaLists small = new FormulaLists();
        small.style(3, false);
        small.atom(0, 0);
        small.script(1, true, listOf(small, 0));
        small.run(0);
        box(small, 42, 45, 0);
        item(small, 1, 0, 20, 20, 5, 20, 0, 2, 0);
        FormulaLists empty = new FormulaLists();
        empty.atom(0, 2);
        empty.script(0, false, empty.atom(8, 0));
        due("an empty script has no item", 1, () -> empty.run(0));
        box(empty, 65, 70, 20);
        lowerIsCramped();
    }

    /** Within a lower script an upper one stands lower; within an upper one it does not. */
    private static void lowerIsCramped() {
        FormulaLists x = new FormulaLists();
        x.atom(0, 0);
        x.script(0, false, listOf(x, 0));
        x.script(1, true, listOf(x, 0));
        x.run(0);
        item(x, 2, 0, 68, 1, 5);
        FormulaLists y = new FormulaLists();
        y.atom(0, 0);
        y.script(0, true, listOf(y, 0));
        y.script(1, true, listOf(y, 0));
        y.run(0);
        item(y, 2, 0, 68, 68, 5);
    }

    private static void limits() {
        FormulaLists x = new FormulaLists();
        x.atom(1, 0);
        int wide = listOf(x, 3);
        x.atom(0, 3);
        x.script(0, true, wide);
        x.script(0, false, listOf(x, 2));
        x.run(0);
        box(x, 98, 129, 59);
        item(x, 0, 0, 21, 0, 14, 56);
        item(x, 1, 0, 0, 94, 7, 49);
        item(x, 2, 0, 49, 94, 7, 49);
        item(x, 3, 0, 28, -59, 7, 42);
        FormulaLists y = new FormulaLists();
        y.style(1, false);
        y.atom(1, 0);
        y.script(1, true, listOf(y, 0));
        y.run(0);
        box(y, 73, 75, 0);
    }

    private static void fractions() {
        about = "promise 4";
        FormulaLists x = new FormulaLists();
        int over = listOf(x, 3);
        int under = listOf(x, 2);
        int open = x.atom(8, 0);
        thrown("no such list", NO_ELEMENT, () -> x.fraction(9, under, 2000));
        thrown("no such list", NO_ELEMENT, () -> x.fraction(over, -1, 2000));
        thrown("rule 1001", ARGUMENT, () -> x.fraction(over, over, 1001));
        thrown("rule far above", ARGUMENT, () -> x.fraction(over, under, 1L << 40));
        thrown("rule far above", ARGUMENT, () -> x.fraction(over, under, Long.MAX_VALUE));
        thrown("one list", STATE, () -> x.fraction(over, over, 0));
        thrown("list 0", STATE, () -> x.fraction(over, 0, 0));
        thrown("the open list", STATE, () -> x.fraction(over, open, 0));
        x.style(2, false);
        due("a fraction", 3, () -> x.fraction(over, under, Long.MIN_VALUE));
        due("it is inner", 7, () -> x.kind(3));
        thrown("its lists are not free", STATE, () -> x.fraction(over, under, 0));
        due("run", 3, () -> x.run(open));
        box(x, 42, 57, 30);
        item(x, 0, 0, 3, 32, 5, 35, 3, 0, 0);
        item(x, 1, 0, 6, -30, 5, 30, 2, 1, 0);
        item(x, 2, 1, 0, 12, 3, 42, 0, 3, 0);
        fractionEdges();
    }

    private static FormulaLists fractionOf(int style, boolean cramped, long rule) {
        FormulaLists x = new FormulaLists();
        int over = listOf(x, 0);
        int under = listOf(x, 0);
        x.atom(8, 0);
        x.style(style, cramped);
        x.fraction(over, under, rule);
        return x;
    }

    private static void fractionEdges() {
        FormulaLists none = fractionOf(0, false, 0);
        due("no rule", 2, () -> none.run(3));
        box(none, 50, 100, 60);
        FormulaLists most = fractionOf(1, false, 1000);
        due("the highest rule", 3, () -> most.run(3));
        box(most, 38, 565, 525);
        item(most, 2, 1, 0, -480, 1000, 38, 0, 3, 0);
        FormulaLists odd = fractionOf(1, false, 1);
        odd.run(3);
        item(odd, 0, 0, 5, 30, 7);
        item(odd, 1, 0, 5, -26, 7);
        item(odd, 2, 1, 0, 19, 1, 38);
        FormulaLists full = withNodes(118);
        int over = full.atom(8, 0);
        int under = full.atom(8, 0);
        full.atom(8, 0);
        full.atom(0, 0);
        full.atom(0, 0);
        thrown("120 nodes", UNSUPPORTED, () -> full.fraction(over, under, 0));
        thrown("IllegalStateException is first", STATE, () -> full.fraction(over, over, 0));
        full.run(over);
        due("the lists stayed free", 1, () -> full.script(0, true, over));
    }

    private static void fences() {
        about = "promise 5";
        FormulaLists x = new FormulaLists();
        int list = listOf(x, 0);
        int open = x.atom(8, 0);
        thrown("no such list", NO_ELEMENT, () -> x.fence(9, 3, 1));
        thrown("left", ARGUMENT, () -> x.fence(6, 0, 1));
        thrown("left", ARGUMENT, () -> x.fence(-1, list, 1));
        thrown("right", ARGUMENT, () -> x.fence(1, list, 6));
        thrown("right", ARGUMENT, () -> x.fence(1, list, Integer.MIN_VALUE));
        thrown("list 0", STATE, () -> x.fence(0, 0, 0));
        thrown("the open list", STATE, () -> x.fence(1, open, 2));
        due("two others", 0, () -> x.fence(1, list, 2));
        due("none at all", 0, () -> x.fence(0, list, 0));
        due("an unbalanced one is not made", 0, () -> x.run(open));
        due("a fence", 2, () -> x.fence(0, list, 5));
        due("it is inner", 7, () -> x.kind(1));
        thrown("the list is not free", STATE, () -> x.fence(1, list, 2));
        due("run", 2, () -> x.run(open));
        box(x, 85, 50, 10);
        item(x, 0, 0, 5, 0, 10, 40, 0, 0, 0);
        item(x, 1, 2, 45, 0, 0, 40, 5, 1, 0);
        fenceSteps();
        FormulaLists full = withNodes(120);
        int free = full.atom(8, 0);
        full.atom(8, 0);
        thrown("120 nodes", UNSUPPORTED, () -> full.fence(1, free, 1));
        thrown("IllegalArgumentException is first", ARGUMENT, () -> full.fence(6, free, 1));
    }

    /** A fraction in a fence: its rule says how much must be covered. */
    private static FormulaLists fenced(long rule) {
        FormulaLists x = fractionOf(0, false, rule);
        x.atom(8, 0);
        x.fence(1, 3, 1);
        x.run(4);
        return x;
    }

    private static void fenceSteps() {
        item(fenced(40), 0, 2, 0, 0, 3, 30, 1, 4, 0);
        item(fenced(42), 0, 2, 0, 0, 4, 30, 1, 4, 0);
        item(fenced(84), 0, 2, 0, 0, 4, 30, 1, 4, 0);
        item(fenced(86), 0, 2, 0, 0, 4, 30, 1, 4, 1);
        item(fenced(86), 4, 2, 80, 0, 4, 30, 1, 4, 1);
        FormulaLists wide = fenced(1000);
        item(wide, 3, 1, 30, -480, 1000, 50, 0, 3, 0);
        box(wide, 110, 600, 560);
        FormulaLists script = new FormulaLists();
        int empty = script.atom(8, 0);
        int open = script.atom(8, 0);
        script.style(3, true);
        script.fence(2, empty, 0);
        script.run(open);
        box(script, 22, 25, 5);
        item(script, 0, 2, 0, 0, 0, 20, 2, 1, 0);
    }

    private static void matrices() {
        about = "promise 6";
        FormulaLists x = new FormulaLists();
        int first = listOf(x, 0);
        int second = listOf(x, 3);
        int third = listOf(x, 2);
        int open = x.atom(8, 0);
        for (int side : new int[] {0, -1, 6, Integer.MIN_VALUE, Integer.MAX_VALUE, 65536}) {
            due("rows " + side, 0, () -> x.matrix(side, 1));
            due("columns " + side, 0, () -> x.matrix(1, side));
        }
        due("not so many lists", 0, () -> x.matrix(2, 2));
        due("the last two", 4, () -> x.matrix(2, 1));
        due("it is inner", 7, () -> x.kind(3));
        thrown("the second is not free", STATE, () -> x.fence(1, second, 1));
        thrown("the third is not free", STATE, () -> x.fence(1, third, 1));
        due("run", 2, () -> x.run(open));
        box(x, 70, 100, 60);
        item(x, 0, 0, 0, 50, 10, 70, 3, 1, 0);
        item(x, 1, 0, 5, -60, 10, 60, 2, 2, 0);
        due("the first is free", 5, () -> x.fence(1, first, 1));
        matrixStyles();
        matrixRings();
        FormulaLists full = withNodes(120);
        thrown("120 nodes", UNSUPPORTED, () -> full.matrix(1, 1));
        thrown("120 nodes, no rows", UNSUPPORTED, () -> full.matrix(0, 1));
    }

    private static void matrixStyles() {
        FormulaLists odd = new FormulaLists();
        listOf(odd, 0);
        odd.atom(8, 0);
        odd.style(2, true);
        odd.matrix(1, 1);
        odd.run(2);
        box(odd, 28, 32, 3);
        item(odd, 0, 0, 0, -3, 7, 28);
        FormulaLists empty = new FormulaLists();
        empty.atom(8, 0);
        empty.atom(8, 0);
        empty.matrix(1, 1);
        due("no items", 0, () -> empty.run(2));
        box(empty, 0, 20, 0);
        FormulaLists plain = new FormulaLists();
        int script = listOf(plain, 0);
        listOf(plain, 0);
        plain.script(1, true, script);
        plain.atom(8, 0);
        plain.style(1, true);
        plain.matrix(1, 1);
        plain.run(3);
        item(plain, 1, 0, 40, 40 - 17, 7, 28);
        FormulaLists text = new FormulaLists();
        text.atom(8, 0);
        text.atom(1, 0);
        text.atom(8, 0);
        text.matrix(1, 1);
        text.run(2);
        item(text, 0, 0, 0, -5, 10, 40);
    }

    /** The open list in an atom of a list that would be a cell; and a cell that began by a split. */
    private static void matrixRings() {
        FormulaLists x = new FormulaLists();
        listOf(x, 0);
        int open = x.atom(8, 0);
        x.script(0, true, open);
        due("a ring", 0, () -> x.matrix(1, 1));
        due("nothing was made", 1, () -> x.atom(0, 0));
        FormulaLists y = new FormulaLists();
        y.atom(8, 0);
        y.atom(0, 0);
        y.atom(3, 1);
        y.atom(8, 0);
        y.split(1, 0);
        due("the open list is none of them", 3, () -> y.matrix(1, 2));
        due("in the order in which they began", 2, () -> y.run(2));
        item(y, 0, 0, 0, -10, 10, 40, 0, 0, 0);
        item(y, 1, 0, 70, -10, 10, 50, 1, 1, 0);
    }

    private static void styles() {
        about = "promise 7";
        FormulaLists x = new FormulaLists();
        for (int s : new int[] {-1, 4, Integer.MIN_VALUE, Integer.MAX_VALUE}) {
            thrown("style " + s, ARGUMENT, () -> x.style(s, false));
        }
        for (int s = 0; s < 4; s++) {
            int number = s;
            due("style " + s, 2 * s, () -> x.style(number, false));
            x.atom(1, 0);
        }
        thrown("a style node has no kind", NO_ELEMENT, () -> x.kind(0));
        due("style nodes have no items", 4, () -> x.run(0));
        int[] sizes = {14, 10, 7, 5};
        int[] places = {0, 66, 113, 146};
        for (int i = 0; i < 4; i++) {
            item(x, i, 0, places[i], 0, sizes[i], 4 * sizes[i], 0, 2 * i + 1, 0);
        }
        FormulaLists full = withNodes(120);
        thrown("120 nodes", UNSUPPORTED, () -> full.style(0, false));
        thrown("IllegalArgumentException is first", ARGUMENT, () -> full.style(4, false));
    }

    private static void runs() {
        about = "promise 8";
        FormulaLists x = new FormulaLists();
        x.atom(0, 0);
        x.atom(3, 0);
        x.style(2, false);
        x.atom(0, 0);
        int list = listOf(x, 3);
        thrown("run(2)", NO_ELEMENT, () -> x.run(2));
        thrown("run(-1)", NO_ELEMENT, () -> x.run(-1));
        due("run(0)", 3, () -> x.run(0));
        box(x, 138, 50, 0);
        due("run(1)", 1, () -> x.run(list));
        box(x, 70, 50, 20);
        thrown("run(2)", NO_ELEMENT, () -> x.run(2));
        box(x, 70, 50, 20);
        x.script(0, true, list);
        due("a list that is in an atom is laid out in display", 1, () -> x.run(list));
        item(x, 0, 0, 0, 0, 10, 70, 3, 4, 0);
        deepRun();
    }

    /** All thirty lists, each in the one before it. */
    private static FormulaLists scriptChain(boolean upper) {
        FormulaLists x = new FormulaLists();
        x.atom(0, 0);
        for (int list = 1; list < 30; list++) {
            x.atom(8, 0);
            x.atom(0, 0);
            x.script(list - 1, upper, list);
        }
        return x;
    }

    private static void deepRun() {
        FormulaLists up = scriptChain(true);
        due("thirty lists deep, upper", 30, () -> up.run(0));
        item(up, 29, 0, 40 + 28 + 27 * 20, 40 + 28 + 27 * 20, 5, 20, 0, 29, 0);
        FormulaLists down = scriptChain(false);
        due("thirty lists deep, lower", 30, () -> down.run(0));
        item(down, 29, 0, 40 + 28 + 27 * 20, -20 - 14 - 27 * 10, 5, 20, 0, 29, 0);
        FormulaLists fences = new FormulaLists();
        FormulaLists matrices = new FormulaLists();
        listOf(fences, 0);
        listOf(matrices, 0);
        for (int list = 2; list < 30; list++) {
            fences.atom(8, 0);
            fences.fence(1, list - 1, 1);
            matrices.atom(8, 0);
            matrices.matrix(1, 1);
        }
        due("fences around fences", 57, () -> fences.run(29));
        box(fences, 40 + 28 * 60, 50, 10);
        item(fences, 28, 0, 28 * 30, 0, 10, 40, 0, 0, 0);
        due("matrices in matrices", 1, () -> matrices.run(29));
        box(matrices, 40, 45, 5);
        item(matrices, 0, 0, 0, -5, 10, 40, 0, 0, 0);
    }

    private static void itemsTold() {
        about = "promise 9";
        FormulaLists x = new FormulaLists();
        x.atom(0, 3);
        x.run(0);
        x.atom(0, 3);
        box(x, 70, 50, 20);
        item(x, 0, 0, 0, 0, 10, 70, 3, 0, 0);
        thrown("item(1, 0)", INDEX, () -> x.item(1, 0));
        thrown("item(0, 8)", INDEX, () -> x.item(0, 8));
        thrown("item(0, -1)", INDEX, () -> x.item(0, -1));
        thrown("item(-1, 3)", INDEX, () -> x.item(-1, 3));
        thrown("item(-1, -1)", INDEX, () -> x.item(-1, -1));
        thrown("item(-2, 0)", INDEX, () -> x.item(-2, 0));
        thrown("item(max, max)", INDEX, () -> x.item(Integer.MAX_VALUE, Integer.MAX_VALUE));
        thrown("item(min, min)", INDEX, () -> x.item(Integer.MIN_VALUE, Integer.MIN_VALUE));
        x.run(x.atom(8, 0));
        box(x, 0, 0, 0);
        thrown("an empty layout", INDEX, () -> x.item(0, 0));
    }

    private static void spaces() {
        about = "promise 10";
        String[] rows = {"01230001", "11030001", "22002002", "33003003", "00000000", "01230001", "11011111", "11231011"};
        FormulaLists x = new FormulaLists();
        for (int a = 0; a < 8; a++) {
            for (int b = 0; b < 8; b++) {
                int first = a;
                int second = b;
                due("space(" + a + ", " + b + ")", rows[a].charAt(b) - '0', () -> x.space(first, second));
            }
        }
        for (int k : new int[] {-1, 8, Integer.MIN_VALUE, Integer.MAX_VALUE}) {
            thrown("space(" + k + ", 0)", ARGUMENT, () -> x.space(k, 0));
            thrown("space(0, " + k + ")", ARGUMENT, () -> x.space(0, k));
        }
        laidSpaces();
    }

    /** In script style only the spaces that are always thin are left; the second one's style says. */
    private static void laidSpaces() {
        String[] always = {"01000000", "11000000", "00000000", "00000000", "00000000", "01000000", "00000000", "01000000"};
        for (int a = 0; a < 8; a++) {
            for (int b = 0; b < 8; b++) {
                if (a != 2 && b != 2) {
                    FormulaLists x = new FormulaLists();
                    x.atom(a, 0);
                    x.style(2, false);
                    x.atom(b, 0);
                    x.run(0);
                    int wide = x.item(0, 4) + 7 * (always[a].charAt(b) - '0');
                    due("a space in script style, " + a + " " + b, wide, () -> x.item(1, 1));
                }
            }
        }
        FormulaLists x = new FormulaLists();
        x.style(3, false);
        x.atom(0, 0);
        x.style(1, false);
        x.atom(3, 0);
        x.run(0);
        item(x, 1, 0, 20 + 30);
    }

    private static void kinds() {
        about = "promise 11";
        countAs("2", "0");
        countAs("020", "020");
        countAs("0220", "0200");
        countAs("220", "020");
        countAs("2222", "0200");
        countAs("02", "00");
        countAs("02s", "00s");
        countAs("0s2s0", "0s2s0");
        countAs("0s2s3", "0s0s3");
        countAs("120", "100");
        countAs("320", "300");
        countAs("420", "400");
        countAs("520", "520");
        countAs("620", "600");
        countAs("720", "720");
        countAs("021", "021");
        countAs("023", "003");
        countAs("024", "024");
        countAs("025", "005");
        countAs("026", "006");
        countAs("027", "027");
        FormulaLists x = new FormulaLists();
        x.atom(0, 0);
        x.atom(2, 0);
        due("the last one", 0, () -> x.kind(1));
        x.atom(8, 0);
        x.atom(0, 0);
        due("other lists do not matter", 0, () -> x.kind(1));
        thrown("kind(3)", NO_ELEMENT, () -> x.kind(3));
        thrown("kind(-1)", NO_ELEMENT, () -> x.kind(-1));
    }

    private static void countAs(String told, String counted) {
        FormulaLists x = new FormulaLists();
        for (char c : told.toCharArray()) {
            if (c == 's') {
                x.style(1, false);
            } else {
                x.atom(c - '0', 0);
            }
        }
        for (int i = 0; i < told.length(); i++) {
            int node = i;
            if (told.charAt(i) == 's') {
                thrown("kind(" + i + ") of " + told, NO_ELEMENT, () -> x.kind(node));
            } else {
                due("kind(" + i + ") of " + told, counted.charAt(i) - '0', () -> x.kind(node));
            }
        }
    }

    private static void splits() {
        about = "promise 12";
        FormulaLists x = new FormulaLists();
        x.style(3, false);
        x.atom(0, 0);
        x.atom(2, 0);
        x.atom(3, 0);
        x.style(2, false);
        x.atom(0, 0);
        x.atom(3, 1);
        thrown("no such list", NO_ELEMENT, () -> x.split(1, 9));
        thrown("no such list", NO_ELEMENT, () -> x.split(-1, 0));
        for (int i : new int[] {-1, 2, Integer.MIN_VALUE, Integer.MAX_VALUE}) {
            thrown("relation " + i, INDEX, () -> x.split(0, i));
        }
        due("the binary one before a relation", 0, () -> x.kind(2));
        due("at the second", 1, () -> x.split(0, 1));
        due("the new one is open", 7, () -> x.atom(0, 9));
        due("it has them", 2, () -> x.run(1));
        item(x, 0, 0, 0, 0, 10, 50, 1, 6, 0);
        int open = x.atom(8, 0);
        due("at the first", 3, () -> x.split(0, 0));
        due("the open one stays", 8, () -> x.atom(0, 9));
        due("it has it", 1, () -> x.run(open));
        due("the rest", 2, () -> x.run(0));
        due("a style node goes along", 2, () -> x.run(3));
        item(x, 1, 0, 50 - 10, 0, 7);
        thrown("no relation is left", INDEX, () -> x.split(0, 0));
        due("the whole list", 4, () -> x.split(3, 0));
        due("nothing is left", 0, () -> x.run(3));
        due("a split list is free", 1, () -> x.script(8, true, 4));
        due("a list in an atom may be split", 5, () -> x.split(4, 0));
        due("the new one is free", 2, () -> x.script(8, false, 5));
        splitFull();
    }

    private static void splitFull() {
        FormulaLists x = new FormulaLists();
        x.atom(3, 0);
        for (int list = 1; list < 30; list++) {
            x.atom(8, 0);
        }
        thrown("30 lists", UNSUPPORTED, () -> x.split(0, 0));
        thrown("IndexOutOfBoundsException is first", INDEX, () -> x.split(0, 1));
        due("nothing moved", 1, () -> x.run(0));
    }

    public static void main(String[] args) {
        newObject();
        atoms();
        scripts();
        fractions();
        fences();
        matrices();
        styles();
        runs();
        itemsTold();
        spaces();
        kinds();
        splits();
        System.out.println(wrong == 0 ? "all answers are as due" : wrong + " answers are not as due");
        if (wrong != 0) {
            System.exit(1);
        }
    }
}

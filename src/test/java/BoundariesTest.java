import java.util.ArrayList;
import java.util.Arrays;
import java.util.Collections;
import java.util.List;
import java.util.NoSuchElementException;

/**
 * The document's sentences that name a boundary case, each with calls on a new object and what is due, worked out by
 * hand. A line is a call with its arguments, and perhaps: "= n" it answers n; "! E" it throws E, "~ n" it answers n,
 * and in both cases nothing has changed. "5 * call" makes it five times; "box w h d" and "parts i : .." ask item.
 */
public final class BoundariesTest {
    private static final int MOST_CALLS = 512;
    private static final int MIN = Integer.MIN_VALUE;
    private static final int MAX = Integer.MAX_VALUE;
    private static final int[] UNITS = {10, 10, 7, 5};

    private static int wrong = 0;
    private static int sentences = 0;

    private static void tell(String text) {
        wrong++;
        System.out.println(text);
    }

    /** An object that counts its calls, for behind the last one every answer is free. */
    private static final class Subject {
        private final FormulaLists lists = new FormulaLists();
        private int calls = 0;

        String outcome(String... call) {
            calls++;
            if (calls > MOST_CALLS) {
                throw new AssertionError("the test itself makes too many calls");
            }
            try {
                return Integer.toString(answer(call));
            } catch (RuntimeException e) {
                return e.getClass().getName();
            }
        }

        private int answer(String[] call) {
            int a = number(call, 1);
            int b = number(call, 2);
            int c = number(call, 3);
            boolean second = call.length > 2 && call[2].equals("true");
            switch (call[0]) {
                case "atom": return lists.atom(a, b);
                case "script": return lists.script(a, second, c);
                case "fraction": return lists.fraction(a, b, Long.parseLong(call[3]));
                case "fence": return lists.fence(a, b, c);
                case "matrix": return lists.matrix(a, b);
                case "style": return lists.style(a, second);
                case "run": return lists.run(a);
                case "item": return lists.item(a, b);
                case "space": return lists.space(a, b);
                case "kind": return lists.kind(a);
                case "split": return lists.split(a, b);
                default: throw new AssertionError("no such call: " + call[0]);
            }
        }

        private static int number(String[] call, int at) {
            boolean isNumber = at < call.length && !call[at].equals("true") && !call[at].equals("false");
            return isNumber ? (int) Long.parseLong(call[at]) : 0;
        }
    }

    /** A call, and what is due of it: mark is '=', '!', '~', or ' ' where the answer is not looked at. */
    private static final class Step {
        final String[] call;
        final char mark;
        final String due;

        Step(String[] call, char mark, String due) {
            this.call = call;
            this.mark = mark;
            this.due = due;
        }

        boolean isRight(String outcome) {
            return mark == ' ' ? Character.isDigit(outcome.charAt(0)) : outcome.equals(due);
        }
    }

    private static String exception(String word) {
        switch (word) {
            case "Element": return NoSuchElementException.class.getName();
            case "Argument": return IllegalArgumentException.class.getName();
            case "State": return IllegalStateException.class.getName();
            case "Unsupported": return UnsupportedOperationException.class.getName();
            case "Index": return IndexOutOfBoundsException.class.getName();
            default: throw new AssertionError("no such exception: " + word);
        }
    }

    private static void addItemSteps(List<Step> steps, String item, String[] words, int from) {
        for (int at = from; at < words.length; at++) {
            steps.add(new Step(new String[] {"item", item, Integer.toString(at - from)}, '=', words[at]));
        }
    }

    private static void addSteps(List<Step> steps, String line) {
        String[] words = line.split(" ");
        if (words[0].equals("box")) {
            addItemSteps(steps, "-1", words, 1);
            return;
        }
        if (words[0].equals("parts")) {
            addItemSteps(steps, words[1], words, 3);
            return;
        }
        boolean repeated = words.length > 1 && words[1].equals("*");
        int times = repeated ? Integer.parseInt(words[0]) : 1;
        int from = repeated ? 2 : 0;
        int to = words.length;
        char mark = ' ';
        String due = "";
        if (words.length > 2 && "=!~".contains(words[words.length - 2])) {
            to -= 2;
            mark = words[to].charAt(0);
            due = mark == '!' ? exception(words[to + 1]) : words[to + 1];
        }
        for (int time = 0; time < times; time++) {
            steps.add(new Step(Arrays.copyOfRange(words, from, to), mark, due));
        }
    }

    private static void sentence(String text, String... lines) {
        sentences++;
        List<Step> steps = new ArrayList<>();
        for (String line : lines) {
            addSteps(steps, line);
        }
        Subject x = new Subject();
        for (int at = 0; at < steps.size(); at++) {
            Step step = steps.get(at);
            String got = x.outcome(step.call);
            if (!step.isRight(got)) {
                tell(text + ": call " + (at + 1) + ", " + String.join(" ", step.call) + ", answered " + got
                    + ", due is " + step.due);
            }
            if (step.mark == '!' || step.mark == '~') {
                nothingChanged(text, steps.subList(0, at), step);
            }
        }
    }

    private static void nothingChanged(String text, List<Step> before, Step step) {
        List<Step> with = new ArrayList<>(before);
        with.add(step);
        List<String> without = look(before);
        if (!look(with).equals(without)) {
            tell(text + ": " + String.join(" ", step.call) + " changed something");
        }
    }

    private static Subject made(List<Step> steps) {
        Subject x = new Subject();
        for (Step step : steps) {
            x.outcome(step.call);
        }
        return x;
    }

    /** Everything that calls can tell of an object on which these were made; each look has an object of its own. */
    private static List<String> look(List<Step> steps) {
        List<String> seen = new ArrayList<>();
        lookAtItems(made(steps), seen);
        for (int list = 0; list < 31; list++) {
            String number = Integer.toString(list);
            Subject laid = made(steps);
            String items = laid.outcome("run", number);
            seen.add(items);
            if (items.equals(exception("Element"))) {
                break;
            }
            lookAtItems(laid, seen);
            seen.add(made(steps).outcome("fence", "1", number, "1"));
        }
        Subject kinds = made(steps);
        for (int node = 0; node < 121; node++) {
            seen.add(kinds.outcome("kind", Integer.toString(node)));
        }
        lookBehind(steps, seen, "atom", "3", "1");
        lookBehind(steps, seen, "style", "2", "true");
        lookBehind(steps, seen, "atom", "8", "0");
        lookBehind(steps, seen, "matrix", "1", "1");
        return seen;
    }

    private static void lookBehind(List<Step> steps, List<String> seen, String... call) {
        Subject x = made(steps);
        seen.add(x.outcome(call));
        for (int list = 0; list < 31; list++) {
            seen.add(x.outcome("run", Integer.toString(list)));
        }
    }

    /** The box and the first items; more of them would be too many calls. */
    private static void lookAtItems(Subject x, List<String> seen) {
        for (int item = -1; item < 20; item++) {
            String first = x.outcome("item", Integer.toString(item), "0");
            seen.add(first);
            if (first.equals(exception("Index"))) {
                return;
            }
            for (int what = 1; what < 8; what++) {
                seen.add(x.outcome("item", Integer.toString(item), Integer.toString(what)));
            }
        }
    }

    private static String[] lines(Object... parts) {
        List<String> all = new ArrayList<>();
        for (Object part : parts) {
            if (part instanceof String[]) {
                Collections.addAll(all, (String[]) part);
            } else {
                all.add((String) part);
            }
        }
        return all.toArray(new String[0]);
    }

    // What it is, and terms: how many there may be, where nodes come

    private static void howMany() {
        sentence("an object is used for at most 512 calls: the 512th is answered",
            "120 * atom 0 0", "29 * atom 8 0", "362 * run 0", "run 0 = 120");
        sentence("LISTS have numbers 0, 1, .. (30 at most)",
            "run 0 = 0", "run 1 ! Element", "28 * atom 8 0", "run 29 ! Element", "atom 8 0 = 29", "run 29 = 0",
            "run 30 ! Element", "atom 8 0 ! Unsupported");
        sentence("30 lists at most: split makes the last one",
            "atom 3 0", "28 * atom 8 0", "split 0 0 = 29", "run 29 = 1", "atom 8 0 ! Unsupported",
            "split 29 0 ! Unsupported");
        sentence("NODES have numbers 0, 1, .. (120 at most)",
            "kind 0 ! Element", "119 * atom 0 0", "kind 118 = 0", "kind 119 ! Element", "atom 0 0 = 119",
            "kind 119 = 0", "kind 120 ! Element", "atom 0 0 ! Unsupported");
        sentence("120 nodes at most: style nodes count",
            "119 * style 0 false", "style 3 true = 119", "atom 0 0 ! Unsupported", "style 0 false ! Unsupported",
            "run 0 = 0");
        sentence("120 nodes at most: the last one is a fraction",
            "119 * atom 0 0", "5 * atom 8 0", "fraction 1 2 0 = 119", "fraction 3 4 0 ! Unsupported", "run 5 = 0");
        sentence("120 nodes at most: the last one is a fence",
            "119 * atom 0 0", "3 * atom 8 0", "fence 1 1 1 = 120", "fence 1 2 1 ! Unsupported", "run 3 = 2");
        sentence("120 nodes at most: the last one is a matrix",
            "119 * atom 0 0", "3 * atom 8 0", "matrix 1 1 = 120", "matrix 1 1 ! Unsupported", "kind 119 = 7");
        sentence("120 nodes in all, whichever lists they are in",
            "60 * atom 0 0", "atom 8 0", "59 * atom 0 0", "atom 8 0", "atom 0 0 = 119", "atom 0 0 ! Unsupported",
            "run 0 = 60", "run 1 = 59", "run 2 = 1");
        List<String> most = new ArrayList<>(List.of("atom 8 0"));
        for (int list = 1; list < 29; list++) {
            Collections.addAll(most, "atom 8 0", "fence 1 " + list + " 1 = " + list);
        }
        Collections.addAll(most, "92 * atom 0 0", "atom 0 0 ! Unsupported", "run 29 = 148", "item 147 6 = 119",
            "item 148 0 ! Index");
        sentence("all nodes and lists at once: as many items as there can be", most.toArray(new String[0]));
    }

    private static void openList() {
        sentence("THE OPEN LIST is at first list 0", "atom 0 5 = 0", "run 0 = 1", "item 0 5 = 5");
        sentence("THE OPEN LIST is the one that began last",
            "atom 0 0", "atom 8 0", "atom 0 1", "atom 8 0", "atom 0 2", "run 0 = 1", "item 0 5 = 0", "run 1 = 1",
            "item 0 5 = 1", "run 2 = 1", "item 0 5 = 2");
        sentence("a list stays open when it comes into an atom",
            "atom 0 0", "atom 8 0", "script 0 true 1 = 1", "atom 0 7 = 1", "run 1 = 1", "run 0 = 2");
        sentence("nodes stand in the order in which they were made",
            "atom 8 0", "atom 0 0", "atom 8 0", "atom 0 1", "fence 1 1 1 = 3", "atom 0 2", "run 2 = 5",
            "item 0 6 = 1", "item 1 6 = 2", "item 2 6 = 0", "item 3 6 = 2", "item 4 6 = 3");
    }

    private static void freeLists() {
        for (String side : new String[] {"true", "false"}) {
            String other = side.equals("true") ? "false" : "true";
            sentence("a list is FREE as long as it is in no atom: script, upper " + side,
                "atom 0 0", "atom 8 0", "script 0 " + side + " 1 = 1", "2 * atom 8 0", "atom 0 1",
                "script 0 " + other + " 1 ! State", "script 1 true 1 ! State", "fence 1 1 1 ! State",
                "fraction 1 2 0 ! State", "fraction 2 1 0 ! State", "matrix 1 2 ~ 0", "matrix 1 1 = 3");
        }
        sentence("a list is FREE as long as it is in no atom: fraction",
            "3 * atom 8 0", "fraction 1 2 0 = 0", "2 * atom 8 0", "script 0 true 1 ! State", "script 0 false 2 ! State",
            "fence 1 1 1 ! State", "fence 1 2 1 ! State", "fraction 4 1 0 ! State", "fraction 2 4 0 ! State",
            "matrix 1 3 ~ 0", "matrix 2 1 = 2");
        sentence("a list is FREE as long as it is in no atom: fence",
            "atom 0 0", "2 * atom 8 0", "fence 1 1 1 = 2", "2 * atom 8 0", "script 0 true 1 ! State",
            "fence 1 1 1 ! State", "fraction 3 1 0 ! State", "fraction 1 3 0 ! State", "matrix 3 1 ~ 0",
            "matrix 1 2 = 3");
        sentence("a list is FREE as long as it is in no atom: matrix",
            "atom 0 0", "3 * atom 8 0", "matrix 1 2 = 2", "2 * atom 8 0", "script 0 true 1 ! State",
            "script 0 true 2 ! State", "fence 1 1 1 ! State", "fence 1 2 1 ! State", "fraction 2 4 0 ! State",
            "fraction 4 1 0 ! State", "matrix 1 3 ~ 0", "matrix 1 2 = 3");
        sentence("list 0 is never FREE",
            "2 * atom 8 0", "atom 0 0", "script 0 true 0 ! State", "script 0 false 0 ! State", "fence 1 0 1 ! State",
            "fraction 0 1 0 ! State", "fraction 1 0 0 ! State", "matrix 1 2 ~ 0", "matrix 1 1 = 2");
    }

    private static void rings() {
        sentence("no RING: the atom is in the list",
            "atom 8 0", "atom 0 0", "script 0 true 1 ! State", "script 0 false 1 ! State", "fence 1 1 1 ! State",
            "atom 8 0", "fraction 1 2 0 ! State", "fraction 2 1 0 ! State", "fence 1 2 1 ! State");
        for (String side : new String[] {"true", "false"}) {
            sentence("no RING: the atom is in a list in an atom that is in it, as a script, upper " + side,
                "atom 8 0", "atom 0 0", "atom 8 0", "atom 0 0", "script 0 " + side + " 2 = 1",
                "script 1 true 1 ! State", "script 1 false 1 ! State", "fence 1 1 1 ! State", "matrix 1 1 ~ 0");
        }
        sentence("no RING: the atom is in a list in a fraction that is in it",
            "atom 8 0", "atom 0 0", "atom 8 0", "atom 0 0", "atom 8 0", "fraction 1 2 0 = 2",
            "script 0 true 3 ! State", "script 1 true 3 ! State", "script 2 true 3 ! State");
        sentence("no RING: the atom is in a list in a fence that is in it",
            "atom 8 0", "atom 0 0", "atom 8 0", "fence 1 1 1 = 2", "script 0 true 2 ! State", "script 1 true 2 ! State");
        sentence("no RING: the atom is in a list in a matrix that is in it",
            "atom 8 0", "atom 0 0", "atom 8 0", "atom 0 0", "atom 8 0", "matrix 1 2 = 3", "script 0 true 3 ! State",
            "script 1 false 3 ! State", "script 2 false 3 ! State");
        sentence("no RING: a fraction, of its lists each one",
            "atom 8 0", "atom 0 0", "2 * atom 8 0", "script 0 true 3 = 1", "fraction 1 2 0 ! State",
            "fraction 2 1 0 ! State", "fence 1 2 1 = 2");
        List<String> chain = new ArrayList<>(List.of("atom 0 0"));
        for (int list = 1; list < 30; list++) {
            Collections.addAll(chain, "atom 8 0", "atom 0 0 = " + list);
            if (list > 1) {
                chain.add("script " + (list - 1) + " true " + list + " = 1");
            }
        }
        Collections.addAll(chain, "script 29 true 1 ! State", "script 29 false 1 ! State", "script 2 false 1 ! State",
            "fence 1 1 1 ! State", "matrix 1 1 ~ 0", "script 0 true 1 = 1", "run 0 = 30");
        sentence("no RING: and so on, through all lists", chain.toArray(new String[0]));
        sentence("a RING is gone when a split takes the atom away",
            "atom 8 0", "atom 0 0", "atom 3 0", "atom 8 0", "atom 0 0", "script 1 true 2 = 1", "script 2 true 1 ! State",
            "split 1 0 = 3", "script 2 true 3 ! State", "script 2 true 1 = 1", "run 3 = 3");
    }

    // Terms: kinds as they count, and spaces

    /** Atoms of these kinds (s: a style node) count as told. */
    private static void count(String sentence, String... toldAndCounted) {
        for (int at = 0; at < toldAndCounted.length; at += 2) {
            String told = toldAndCounted[at];
            String counted = toldAndCounted[at + 1];
            List<String> all = new ArrayList<>();
            for (char c : told.toCharArray()) {
                all.add(c == 's' ? "style 1 false" : "atom " + c + " 0");
            }
            for (int i = 0; i < told.length(); i++) {
                all.add("kind " + i + (told.charAt(i) == 's' ? " ! Element" : " = " + counted.charAt(i)));
            }
            sentence(sentence + " (" + told + ")", all.toArray(new String[0]));
        }
    }

    private static void countedKinds() {
        count("a binary one becomes ordinary, if it is the first atom", "2", "0", "20", "00", "27", "07", "s20", "s00");
        count("a binary one becomes ordinary, if the one before counts as 1, 2, 3, 4 or 6",
            "120", "100", "0220", "0200", "320", "300", "420", "400", "620", "600");
        count("a binary one stays, if the one before counts as 0, 5 or 7", "020", "020", "520", "520", "720", "720");
        count("what the one before COUNTS as", "220", "020", "2220", "0200", "02220", "02020", "1220", "1020");
        count("a binary one becomes ordinary, if the next one is 3, 5 or 6", "023", "003", "025", "005", "026", "006");
        count("a binary one stays, if the next one is 0, 1, 2, 4 or 7",
            "020", "020", "021", "021", "022", "020", "024", "024", "027", "027");
        count("a binary one becomes ordinary, if there is no next one", "02", "00", "02s", "00s", "52", "50", "72", "70");
        count("style nodes are not looked at",
            "0s20", "0s20", "1s20", "1s00", "02s0", "02s0", "02ss3", "00ss3", "ss2s0", "ss0s0");
        count("others stay what they are", "0134567", "0134567", "7654310", "7654310", "33", "33", "66", "66");
        sentence("list by list: the next list's atoms are not looked at",
            "atom 0 0", "atom 2 0", "atom 8 0", "atom 0 0", "kind 1 = 0");
        sentence("list by list: the list before is not looked at",
            "atom 0 0", "atom 8 0", "atom 2 0", "atom 0 0", "kind 1 = 0", "kind 2 = 0");
        sentence("list by list: the lists in an atom are not looked at",
            "atom 0 0", "atom 2 0", "atom 0 0", "atom 8 0", "atom 3 0", "script 0 true 1", "script 1 false 1 ! State",
            "kind 1 = 2", "atom 8 0", "atom 1 0", "script 1 true 2", "kind 1 = 2");
        sentence("a fraction, a fence and a matrix are inner",
            "5 * atom 8 0", "fraction 1 2 0 = 0", "atom 2 0", "fence 1 3 1 = 3", "atom 2 0", "matrix 1 1 = 5",
            "kind 0 = 7", "kind 1 = 2", "kind 2 = 7", "kind 3 = 2", "kind 4 = 7");
        sentence("spaces go by what atoms count as: none behind a binary one that became ordinary",
            "atom 2 0", "atom 0 0", "run 0 = 2", "item 1 1 = 40", "box 80 50 0");
    }

    private static void spaceWidths() {
        int[] wideStyles = {1, 1, 0, 0};
        for (int s = 0; s < 4; s++) {
            int z = UNITS[s];
            String style = "style " + s + " false";
            int wide = wideStyles[s];
            sentence("1 is thin, in every style: " + s,
                "atom 0 0", style, "atom 1 0", "run 0 = 2", "item 1 1 = " + (40 + z));
            sentence("a is thin in styles 0 and 1, none in others: " + s,
                "atom 0 0", style, "atom 7 0", "run 0 = 2", "item 1 1 = " + (40 + z * wide));
            sentence("b is medium in styles 0 and 1, none in others: " + s,
                "atom 0 0", style, "atom 2 0", "atom 0 0", "run 0 = 3", "item 1 1 = " + (40 + 2 * z * wide),
                "item 2 1 = " + (40 + 2 * z * wide + 4 * z + 2 * z * wide));
            sentence("c is thick in styles 0 and 1, none in others: " + s,
                "atom 0 0", style, "atom 3 0", "run 0 = 2", "item 1 1 = " + (40 + 3 * z * wide));
        }
        sentence("of the style in which the second one stands: display behind small",
            "style 3 false", "atom 0 0", "style 0 false", "atom 3 0", "run 0 = 2", "item 1 1 = 50");
        sentence("of the style in which the second one stands: small behind display",
            "atom 0 0", "style 3 false", "atom 1 0", "run 0 = 2", "item 1 1 = 45");
        sentence("over style nodes: the last of them tells",
            "atom 0 0", "style 3 false", "style 1 true", "atom 3 0", "run 0 = 2", "item 1 1 = 70");
        sentence("no space before the first atom and behind the last one",
            "style 1 false", "atom 3 0", "style 1 false", "run 0 = 1", "item 0 1 = 0", "box 40 50 0");
        sentence("4 all 0, and 0 before 5 and 6",
            "atom 4 0", "atom 3 0", "atom 5 0", "atom 5 0", "run 0 = 4", "item 1 1 = 40", "item 2 1 = 80",
            "item 3 1 = 120", "box 160 50 0");
    }

    /** The document's rows, each pair laid out in each style; binary ones with neighbours that let them stay. */
    private static void spaceTable() {
        String[] rows = {"01bc000a", "110c000a", "bb00b00b", "cc00c00c", "00000000", "01bc000a", "aa0aaaaa", "a1bca0aa"};
        for (int s = 0; s < 4; s++) {
            for (int a = 0; a < 8; a++) {
                for (int b = 0; b < 8; b++) {
                    boolean stay = (b != 2 || "057".contains("" + a)) && (a != 2 || "0147".contains("" + b));
                    if (stay) {
                        int wide = UNITS[s] * units(rows[a].charAt(b), s);
                        sentence("SPACES: " + a + " and " + b + " in style " + s, pairInStyle(a, b, s, wide));
                    }
                }
            }
        }
    }

    private static int units(char c, int style) {
        if (c == '0' || c == '1') {
            return c - '0';
        }
        return style < 2 ? c - 'a' + 1 : 0;
    }

    private static String[] pairInStyle(int a, int b, int s, int wide) {
        String[] pair = {"style 1 false", "atom " + a + " 0", "style " + s + " false", "atom " + b + " 0"};
        if (a == 2) {
            return lines("style 1 false", "atom 0 0", pair, "run 0 = 3", "item 2 1 = " + (100 + wide));
        }
        if (b == 2) {
            return lines(pair, "atom 0 0", "run 0 = 3", "item 1 1 = " + (40 + wide));
        }
        return lines(pair, "run 0 = 2", "item 1 1 = " + (40 + wide));
    }

    // Terms: signs, scripts

    private static void signs() {
        int[][] measures = {
            {0, 40, 50, 0}, {1, 50, 60, 0}, {2, 60, 70, 0}, {3, 70, 50, 20}, {4, 80, 60, 0}, {5, 40, 70, 0}, {6, 50, 50, 0},
            {7, 60, 60, 20}, {127, 60, 60, 20}, {128, 70, 70, 0}, {252, 60, 50, 0}, {254, 80, 70, 0}, {255, 40, 50, 20}
        };
        for (int[] m : measures) {
            sentence("a SIGN c: width size (4 + c % 5), height size (5 + c % 3), depth 2 size if c % 4 is 3: " + m[0],
                "atom 0 " + m[0], "run 0 = 1", "box " + m[1] + " " + m[2] + " " + m[3],
                "parts 0 : 0 0 0 10 " + m[1] + " " + m[0] + " 0 0");
        }
        int[] sizes = {14, 10, 7, 5};
        for (int s = 0; s < 4; s++) {
            int size = sizes[s];
            int z = UNITS[s];
            sentence("size 14 of an operator in style 0, else Z: style " + s,
                "style " + s + " true", "atom 1 255", "run 0 = 1", "item 0 3 = " + size,
                "box " + 4 * size + " " + 5 * size + " " + 2 * size);
            sentence("size Z of others: style " + s,
                "style " + s + " true", "atom 7 255", "run 0 = 1", "item 0 3 = " + z,
                "box " + 4 * z + " " + 5 * z + " " + 2 * z);
        }
        for (int kind = 0; kind < 8; kind++) {
            sentence("size 14 of an operator alone: kind " + kind,
                "atom " + kind + " 0", "run 0 = 1", "item 0 3 = " + (kind == 1 ? 14 : 10));
        }
    }

    /** An atom 0 of a kind, the sign and a style node before it; its script is a list with one sign. */
    private static String[] scripted(String style, String kindAndSign, String side, int sign) {
        return lines(style, "atom " + kindAndSign, "atom 8 0", "atom 0 " + sign, "script 1 " + side + " 1 = 1",
            "run 0 = 2");
    }

    private static void scriptStyles() {
        int[] sizes = {7, 7, 5, 5};
        int[] up = {40, 40, 28, 20};
        int[] wide = {73, 73, 51, 42};
        for (int s = 0; s < 4; s++) {
            sentence("SCRIPTS are in the next style but one (0, 1 to 2; others to 3): " + s,
                lines(scripted("style " + s + " false", "0 0", "true", 0),
                    "parts 1 : 0 " + 4 * UNITS[s] + " " + up[s] + " " + sizes[s] + " " + 4 * sizes[s] + " 0 2 0",
                    "item -1 0 = " + wide[s]));
            sentence("lower SCRIPTS too: " + s,
                lines(scripted("style " + s + " false", "0 0", "false", 0),
                    "parts 1 : 0 " + 4 * UNITS[s] + " " + -2 * UNITS[s] + " " + sizes[s] + " " + 4 * sizes[s] + " 0 2 0",
                    "box " + wide[s] + " " + 5 * UNITS[s] + " " + 2 * UNITS[s]));
        }
        String[] both = {"atom 0 0", "atom 8 0", "atom 0 0", "script 1 SIDE 1", "atom 8 0", "atom 0 0",
            "script 2 true 2", "run 0 = 3"};
        for (String cramped : new String[] {"false", "true"}) {
            String[] upper = Arrays.stream(both).map(line -> line.replace("SIDE", "true")).toArray(String[]::new);
            String[] lower = Arrays.stream(both).map(line -> line.replace("SIDE", "false")).toArray(String[]::new);
            int line = cramped.equals("true") ? 30 + 21 : 40 + 28;
            sentence("upper ones are cramped if it is: " + cramped, lines("style 0 " + cramped, upper, "item 2 2 = " + line));
            sentence("lower ones are cramped: " + cramped, lines("style 0 " + cramped, lower, "item 2 2 = 1"));
        }
    }

    private static void upperLine() {
        int[] plain = {40, 40, 50};
        int[] cramped = {30, 40, 50};
        for (int sign = 0; sign < 3; sign++) {
            sentence("the upper line: the nucleus's height less 2 Z, or 4 Z: height " + (50 + 10 * sign),
                lines(scripted("style 0 false", "0 " + sign, "true", 0), "item 1 2 = " + plain[sign],
                    "item -1 1 = " + (plain[sign] + 35)));
            sentence("the upper line: the nucleus's height less 2 Z, or cramped 3 Z: height " + (50 + 10 * sign),
                lines(scripted("style 0 true", "0 " + sign, "true", 0), "item 1 2 = " + cramped[sign],
                    "item -1 1 = " + (cramped[sign] + 35)));
        }
        sentence("the upper line: its depth and Z, as much as 4 Z",
            lines(fractionScript(24, "true"), "item 1 2 = 73", "item 2 2 = 10", "item 3 2 = 42"));
        sentence("the upper line: its depth and Z, one more than 4 Z",
            lines(fractionScript(26, "true"), "item 1 2 = 75", "item 2 2 = 10", "item 3 2 = 42"));
        sentence("the upper line: its depth and Z, with an odd rule",
            lines(fractionScript(25, "true"), "item 1 2 = 74", "item 2 2 = 10", "item 3 2 = 42"));
    }

    /** An atom 0 with a fraction as its script, which is as high and as deep as its rule makes it. */
    private static String[] fractionScript(int rule, String side) {
        return lines("atom 0 0", "atom 8 0", "atom 0 0", "atom 8 0", "atom 0 0", "atom 8 0",
            "fraction 1 2 " + rule + " = 3", "script 0 " + side + " 3 = 1", "run 0 = 4");
    }

    private static void lowerLine() {
        sentence("the lower line: 2 Z", lines(scripted("style 0 false", "0 0", "false", 0), "item 1 2 = -20"));
        sentence("the lower line: the nucleus's depth and Z",
            lines(scripted("style 0 false", "0 3", "false", 0), "item 1 2 = -30", "item -1 2 = 30"));
        sentence("the lower line: its height less 4 Z, as much as 2 Z",
            lines(fractionScript(28, "false"), "item 1 2 = 15", "item 2 2 = -52", "item -1 2 = 52"));
        sentence("the lower line: its height less 4 Z, one more than 2 Z",
            lines(fractionScript(30, "false"), "item 1 2 = 15", "item 2 2 = -54", "item -1 2 = 54"));
        sentence("the lower line: cramped or not",
            lines(scripted("style 0 true", "0 0", "false", 0), "item 1 2 = -20"));
    }

    /** Upper script: a sign; lower one: a fraction. */
    private static String[] bothScripts(int rule) {
        return lines("atom 0 0", "atom 8 0", "atom 0 0", "atom 8 0", "atom 0 0", "atom 8 0", "atom 0 0", "atom 8 0",
            "fraction 2 3 " + rule + " = 4", "script 0 true 1 = 1", "script 0 false 4 = 2", "run 0 = 5", "item 1 2 = 40");
    }

    private static void scriptsApart() {
        sentence("with both: just Z apart, nothing goes down", lines(bothScripts(8), "item 2 2 = 5", "item 3 2 = -42"));
        sentence("with both: one less than Z apart, the lower one goes down by what is missing",
            lines(bothScripts(10), "item 2 2 = 5", "item 3 2 = -44"));
        sentence("with both: one above the other's top, by all that is missing",
            "atom 0 0", "atom 8 0", "atom 0 3", "atom 8 0", "atom 0 2", "script 0 true 1", "script 0 false 2",
            "run 0 = 3", "item 1 2 = 40", "item 2 2 = -33", "box 94 75 33");
        sentence("with one alone nothing goes down",
            "atom 0 0", "atom 8 0", "atom 0 2", "script 0 false 1", "run 0 = 2", "item 1 2 = -20");
        sentence("with both, one of them empty: its bottom is its line",
            "atom 0 0", "2 * atom 8 0", "atom 0 2", "script 0 true 1", "script 0 false 2", "run 0 = 2", "item 1 2 = -20",
            "box 87 50 20");
        sentence("with both, the empty one below",
            "atom 0 0", "atom 8 0", "atom 0 3", "atom 8 0", "script 0 true 1", "script 0 false 2", "run 0 = 2",
            "item 1 2 = 40", "box 94 75 20");
        sentence("the width: the greater one of theirs is the upper one",
            "atom 0 0", "atom 8 0", "atom 0 4", "atom 8 0", "atom 0 0", "script 0 true 1", "script 0 false 2",
            "run 0 = 3", "item -1 0 = 101");
        sentence("the width: the greater one of theirs is the lower one",
            "atom 0 0", "atom 8 0", "atom 0 0", "atom 8 0", "atom 0 4", "script 0 true 1", "script 0 false 2",
            "run 0 = 3", "item -1 0 = 101");
        sentence("the width: Z / 2 even with an empty script", "atom 0 0", "atom 8 0", "script 0 true 1", "run 0 = 1",
            "box 45 50 0");
        sentence("Z / 2 stands before the next one",
            "atom 0 0", "atom 0 0", "atom 8 0", "atom 0 0", "script 0 true 1", "run 0 = 3", "item 2 1 = 73");
        sentence("scripts of a fence: the nucleus's height less 2 Z, its depth and Z",
            "atom 8 0", "atom 0 2", "atom 8 0", "fence 1 1 1 = 2", "atom 8 0", "atom 0 0", "atom 8 0", "atom 0 0",
            "script 1 true 3", "script 1 false 4", "run 2 = 5", "parts 3 : 0 120 50 7", "parts 4 : 0 120 -40 7",
            "box 153 85 40");
    }

    /** A nucleus lower than any sign, and one that does not stand at the list's beginning. */
    private static void unusualNuclei() {
        String[] empty = {"matrix 1 1 = 2", "atom 8 0", "atom 0 0", "script 1 true 3 = 1", "run 2 = 1"};
        sentence("the upper line of a low nucleus: 4 Z",
            lines("2 * atom 8 0", "style 1 false", empty, "parts 0 : 0 0 40 7 28", "box 33 75 0"));
        sentence("the upper line of a low nucleus: cramped 3 Z",
            lines("2 * atom 8 0", "style 1 true", empty, "parts 0 : 0 0 30 7 28", "box 33 65 0"));
        sentence("the upper line of a low nucleus in style 2: 4 Z",
            lines("2 * atom 8 0", "style 2 false", empty, "parts 0 : 0 0 28 5 20", "box 23 53 0"));
        sentence("the upper line of a low nucleus in style 2: cramped 3 Z",
            lines("2 * atom 8 0", "style 2 true", empty, "parts 0 : 0 0 21 5 20", "box 23 46 0"));
        sentence("scripts begin at the nucleus's width, wherever it stands",
            "2 * atom 0 0", "atom 8 0", "atom 0 0", "script 1 true 1", "run 0 = 3", "parts 1 : 0 40 0",
            "parts 2 : 0 80 40 7", "box 113 75 0");
        sentence("limits wherever the nucleus stands",
            "atom 0 0", "atom 1 0", "atom 8 0", "atom 0 0", "script 1 false 1", "run 0 = 3", "parts 1 : 0 50 0 14",
            "parts 2 : 0 64 -45 7", "box 106 70 45");
    }

    private static void limits() {
        sentence("LIMITS: an upper one alone", lines(scripted("style 0 false", "1 0", "true", 3),
            "parts 0 : 0 0 0 14 56", "parts 1 : 0 3 94 7 49", "box 56 129 0"));
        sentence("LIMITS: a lower one alone", lines(scripted("style 0 false", "1 0", "false", 3),
            "parts 0 : 0 0 0 14 56", "parts 1 : 0 3 -45 7 49", "box 56 70 59"));
        sentence("LIMITS: the nucleus's depth counts", lines(scripted("style 0 false", "1 3", "false", 0),
            "parts 0 : 0 0 0 14 98", "parts 1 : 0 35 -73 7 28", "box 98 70 73"));
        sentence("LIMITS: (w - its width) / 2 is downward", lines(scripted("style 0 false", "1 0", "true", 1),
            "parts 1 : 0 10 80 7 35", "box 56 122 0"));
        sentence("LIMITS: the upper one is the widest",
            "atom 1 0", "atom 8 0", "atom 0 3", "atom 0 2", "script 0 true 1", "run 0 = 3", "parts 0 : 0 17 0 14 56",
            "item 1 1 = 0", "item 2 1 = 49", "item -1 0 = 91");
        sentence("LIMITS: the lower one is the widest",
            "atom 1 0", "atom 8 0", "atom 0 0", "atom 8 0", "atom 0 3", "atom 0 2", "script 0 true 1", "script 0 false 2",
            "run 0 = 4", "item 0 1 = 17", "item 1 1 = 31", "item 2 1 = 0", "item 3 1 = 49", "item -1 0 = 91");
        sentence("LIMITS: an empty one counts with its line",
            "atom 1 0", "2 * atom 8 0", "script 0 true 1", "script 0 false 2", "run 0 = 1", "box 56 80 10");
        sentence("LIMITS in style 0 cramped too", lines(scripted("style 0 true", "1 0", "true", 0),
            "parts 1 : 0 14 80 7 28", "box 56 115 0"));
        for (int s = 1; s < 4; s++) {
            sentence("no LIMITS of an operator in style " + s,
                lines(scripted("style " + s + " false", "1 0", "true", 0), "item 1 1 = " + 4 * UNITS[s],
                    "item 1 2 = " + 4 * UNITS[s]));
        }
        for (int kind = 0; kind < 8; kind++) {
            sentence("LIMITS of an operator alone: kind " + kind,
                lines(scripted("style 0 false", kind + " 0", "true", 0), "item 1 1 = " + (kind == 1 ? 14 : 40)));
        }
    }

    // Terms: fractions

    /** Two lists with a sign each, and in list 3 a style node and a fraction of them: its items. */
    private static String[] fractionIn(String style, long rule, int over, int under, int items) {
        return lines("atom 8 0", "atom 0 " + over, "atom 8 0", "atom 0 " + under, "atom 8 0", "style " + style,
            "fraction 1 2 " + rule + " = 3", "run 3 = " + items);
    }

    private static void fractionLayouts() {
        sentence("a FRACTION in style 0, the usual rule", lines(fractionIn("0 false", -1, 0, 0, 3), "box 50 102 63",
            "parts 0 : 0 5 52 10 40 0 0 0", "parts 1 : 0 5 -63 10 40 0 1 0", "parts 2 : 1 0 17 5 50 0 3 0"));
        sentence("a FRACTION in style 1, the usual rule", lines(fractionIn("1 false", -1, 0, 0, 3), "box 38 67 28",
            "parts 0 : 0 5 32 7 28 0 0 0", "parts 1 : 0 5 -28 7 28 0 1 0", "parts 2 : 1 0 17 5 38 0 3 0"));
        sentence("a FRACTION in style 2, the usual rule", lines(fractionIn("2 false", -1, 0, 0, 3), "box 27 47 20",
            "parts 0 : 0 3 22 5 20 0 0 0", "parts 1 : 0 3 -20 5 20 0 1 0", "parts 2 : 1 0 12 3 27 0 3 0"));
        sentence("a FRACTION in style 3, the usual rule", lines(fractionIn("3 false", -1, 0, 0, 3), "box 25 41 21",
            "parts 0 : 0 2 16 5 20 0 0 0", "parts 1 : 0 2 -21 5 20 0 1 0", "parts 2 : 1 0 9 2 25 0 3 0"));
        sentence("t is Z / 2 if the rule is below 0, however far",
            lines(fractionIn("0 false", Long.MIN_VALUE, 0, 0, 3), "item 2 3 = 5", "box 50 102 63"));
        sentence("t is Z / 2 if the rule is below 0, where an int would not be",
            lines(fractionIn("0 false", -4294967295L, 0, 0, 3), "item 2 3 = 5", "box 50 102 63"));
        sentence("if t > 0 there is a rule: none at 0", lines(fractionIn("0 false", 0, 0, 0, 2), "box 50 100 60",
            "item 0 2 = 50", "item 1 2 = -60", "item 2 0 ! Index"));
        sentence("if t > 0 there is a rule: one at 1", lines(fractionIn("0 false", 1, 0, 0, 3), "box 50 100 61",
            "item 0 2 = 50", "item 1 2 = -61", "parts 2 : 1 0 19 1 50 0 3 0"));
        sentence("t / 2 is downward, the rest is below", lines(fractionIn("0 false", 3, 0, 0, 3), "box 50 101 62",
            "item 0 2 = 51", "item 1 2 = -62", "parts 2 : 1 0 18 3 50"));
        sentence("a rule of 1000", lines(fractionIn("0 false", 1000, 0, 0, 3), "box 50 600 560",
            "parts 2 : 1 0 -480 1000 50"));
        sentence("the upper line is at its depth too", lines(fractionIn("0 false", 0, 3, 0, 2), "box 80 120 60",
            "parts 0 : 0 5 70 10 70", "parts 1 : 0 20 -60 10 40"));
        sentence("the lower one's depth counts", lines(fractionIn("0 false", 0, 0, 3, 2), "box 80 100 80",
            "parts 0 : 0 20 50 10 40", "parts 1 : 0 5 -60 10 70"));
        sentence("in the midst is downward", lines(fractionIn("2 false", 0, 0, 1, 2), "item -1 0 = 32",
            "item 0 1 = 6", "item 1 1 = 3"));
        sentence("both lists empty: width Z, and the depth is 0 at least",
            "3 * atom 8 0", "style 1 false", "fraction 1 2 0 = 1", "run 3 = 0", "box 10 30 0");
        sentence("both lists empty, with a rule",
            "3 * atom 8 0", "style 1 false", "fraction 1 2 1 = 1", "run 3 = 1", "box 10 30 0",
            "parts 0 : 1 0 19 1 10 0 1 0");
        sentence("the lower one empty: its line is below the axis by the gap and the rule",
            "3 * atom 8 0", "fraction 1 2 40 = 0", "run 3 = 1", "box 10 70 30");
        String[] nested = {"fraction 1 3 0 = 5", "run 5 = 4"};
        String[] parts = {"atom 8 0", "atom 0 0", "atom 8 0", "atom 0 0", "script 0 true 2 = 1", "atom 8 0",
            "atom 0 0", "atom 8 0",
            "atom 0 0", "script 2 true 4 = 1", "atom 8 0"};
        sentence("the lower one is cramped, the upper one is not if it is not",
            lines(parts, "style 0 false", nested, "item 0 2 = 50", "item 1 2 = 90", "item 2 2 = -75", "item 3 2 = -45"));
        sentence("the lower one is cramped, the upper one if it is",
            lines(parts, "style 0 true", nested, "item 0 2 = 50", "item 1 2 = 80", "item 2 2 = -75", "item 3 2 = -45"));
    }

    // Terms: fences

    /** A fence whose list is as high as the rule of a fraction with nothing below makes it: 40 + rule / 2. */
    private static String[] highFence(String style, int rule) {
        return lines("atom 8 0", "atom 0 0", "2 * atom 8 0", "style 3 false", "fraction 1 2 " + rule + " = 2", "atom 8 0",
            "style " + style, "fence 1 3 1 = 5", "run 4 = 4");
    }

    /** A fence whose list is as deep as the rule of a fraction with nothing above makes it: 20 + (rule + 1) / 2. */
    private static String[] deepFence(int rule) {
        return lines("2 * atom 8 0", "atom 0 0", "atom 8 0", "style 3 false", "fraction 1 2 " + rule + " = 2", "atom 8 0",
            "fence 1 3 1 = 4", "run 4 = 4");
    }

    private static String[] step(int step, int isShort) {
        return lines("item 0 3 = " + step, "item 0 7 = " + isShort, "item 3 3 = " + step, "item 3 7 = " + isShort);
    }

    private static void fenceSteps() {
        int[][] high = {{26, 0}, {28, 1}, {70, 1}, {72, 2}, {114, 2}, {116, 3}, {160, 3}, {162, 4}, {204, 4}};
        for (int[] h : high) {
            sentence("the first step that is at least nine tenths, by the height, Z 10: rule " + h[0],
                lines(highFence("0 false", h[0]), step(h[1], 0)));
        }
        sentence("the last one if there is none (SHORT), by the height, Z 10", lines(highFence("1 true",
            206), step(4, 1)));
        int[][] deep = {{30, 1}, {31, 2}, {74, 2}, {75, 3}, {120, 3}, {121, 4}, {164, 4}};
        for (int[] d : deep) {
            sentence("the first step that is at least nine tenths, by the depth: rule " + d[0],
                lines(deepFence(d[0]), step(d[1], 0)));
        }
        sentence("the last one if there is none (SHORT), by the depth", lines(deepFence(165), step(4, 1)));
        int[][] script = {{24, 1}, {26, 2}, {88, 3}, {90, 4}, {118, 4}};
        for (int[] s : script) {
            sentence("steps in style 2: rule " + s[0], lines(highFence("2 false", s[0]), step(s[1], 0)));
        }
        sentence("SHORT in style 2", lines(highFence("2 false", 120), step(4, 1)));
        int[][] small = {{40, 3}, {42, 4}, {62, 4}};
        for (int[] s : small) {
            sentence("steps in style 3: rule " + s[0], lines(highFence("3 false", s[0]), step(s[1], 0)));
        }
        sentence("SHORT in style 3", lines(highFence("3 false", 64), step(4, 1)));
        sentence("an empty list: step 0",
            "2 * atom 8 0", "fence 1 1 1 = 1", "run 2 = 2", "parts 0 : 2 0 0 0 30 1 0 0", "parts 1 : 2 30 0 0 30 1 0 0",
            "box 60 50 10");
        int[][] signs = {{0, 0}, {1, 1}, {2, 1}, {3, 1}};
        for (int[] s : signs) {
            sentence("a sign in a fence: " + s[0],
                "atom 8 0", "atom 0 " + s[0], "atom 8 0", "fence 1 1 1 = 2", "run 2 = 3", "item 0 3 = " + s[1]);
        }
    }

    private static void fenceBoxes() {
        int[] heights = {50, 70, 90, 110, 130};
        int[] rules = {26, 28, 72, 116, 162};
        for (int step = 0; step < 5; step++) {
            sentence("an item's height is the axis and half its own, depth the rest: step " + step,
                lines(highFence("0 false", rules[step]),
                    "box 85 " + Math.max(heights[step], 40 + rules[step] / 2) + " " + (heights[step] - 40)));
        }
        int[] wide = {0, 30, 40, 20, 30, 40};
        for (int delimiter = 1; delimiter <= 5; delimiter++) {
            sentence("width Z (2 + delimiter % 3): " + delimiter,
                "2 * atom 8 0", "fence " + delimiter + " 1 " + delimiter + " = 1", "run 2 = 2",
                "parts 0 : 2 0 0 0 " + wide[delimiter] + " " + delimiter + " 0 0",
                "parts 1 : 2 " + wide[delimiter] + " 0 0 " + wide[delimiter] + " " + delimiter + " 0 0",
                "item -1 0 = " + 2 * wide[delimiter]);
        }
        int[] half = {5, 5, 3, 2};
        for (int s = 0; s < 4; s++) {
            int z = UNITS[s];
            sentence("0 has no item, and width Z / 2: left, style " + s,
                "atom 8 0", "atom 0 0", "atom 8 0", "style " + s + " false", "fence 0 1 5 = 3", "run 2 = 2",
                "item 0 1 = " + half[s], "item 0 3 = " + z, "parts 1 : 2 " + (half[s] + 4 * z) + " 0 0 " + 4 * z + " 5 2 0",
                "box " + (half[s] + 8 * z) + " " + 5 * z + " " + z);
            sentence("0 has no item, and width Z / 2: right, style " + s,
                "atom 8 0", "atom 0 0", "atom 8 0", "style " + s + " false", "fence 5 1 0 = 3", "run 2 = 2",
                "parts 0 : 2 0 0 0 " + 4 * z + " 5 2 0", "item 1 1 = " + 4 * z,
                "box " + (half[s] + 8 * z) + " " + 5 * z + " " + z);
        }
        sentence("its list in the style as it is: style 0 stays",
            "atom 8 0", "atom 1 0", "atom 8 0", "fence 1 1 1 = 2", "run 2 = 3", "item 1 3 = 14");
        for (String cramped : new String[] {"false", "true"}) {
            sentence("its list is cramped if it is: " + cramped,
                "atom 8 0", "atom 0 0", "atom 8 0", "atom 0 0", "script 0 true 2", "atom 8 0", "style 1 " + cramped,
                "fence 1 1 1 = 4", "run 3 = 4", "item 2 2 = " + (cramped.equals("true") ? 30 : 40));
        }
    }

    // Terms: matrices, lists, boxes

    private static void matrixLayouts() {
        String[] four = {"atom 8 0", "atom 0 0", "atom 8 0", "atom 0 1", "atom 8 0", "atom 0 3", "atom 8 0",
            "atom 0 0", "atom 8 0"};
        sentence("a MATRIX of two rows and columns in style 2, its height and its midsts odd",
            lines(four, "style 2 true", "matrix 2 2 = 6", "run 5 = 4", "box 105 67 38", "parts 0 : 0 10 25 7 28 0 0 0",
                "parts 1 : 0 70 25 7 35 1 1 0", "parts 2 : 0 0 -24 7 49 3 2 0", "parts 3 : 0 73 -24 7 28 0 3 0"));
        sentence("the same in style 0: in style 1",
            lines(four, "matrix 2 2 = 5", "run 5 = 4", "box 150 95 55", "parts 0 : 0 15 35 10 40",
                "parts 1 : 0 100 35 10 50", "parts 2 : 0 0 -35 10 70", "parts 3 : 0 105 -35 10 40"));
        int[] sizes = {10, 10, 7, 5};
        int[] places = {-5, -5, -3, -2};
        for (int s = 0; s < 4; s++) {
            sentence("its lists in style 1 if it was 0, else as it is: " + s,
                "atom 8 0", "atom 1 0", "atom 8 0", "style " + s + " false", "matrix 1 1 = 3", "run 2 = 1",
                "parts 0 : 0 0 " + places[s] + " " + sizes[s] + " " + 4 * sizes[s] + " 0 0 0");
            sentence("its lists are not cramped, in style " + s,
                "atom 8 0", "atom 0 0", "atom 8 0", "atom 0 0", "script 0 true 2", "atom 8 0", "style " + s + " true",
                "matrix 1 1 = 4", "run 3 = 2",
                "item 1 1 = " + 4 * UNITS[s], "item 1 2 = " + new int[] {23, 23, 16, 8}[s]);
        }
        String[] six = {"atom 8 0", "atom 0 0", "atom 8 0", "atom 0 1", "atom 8 0", "atom 0 2", "atom 8 0", "atom 0 3",
            "atom 8 0", "atom 0 4", "atom 8 0", "atom 0 5", "atom 8 0"};
        sentence("a MATRIX of two rows and three columns",
            lines(six, "matrix 2 3 = 7", "run 7 = 6", "box 270 110 70", "parts 0 : 0 15 40 10 40 0",
                "parts 1 : 0 115 40 10 50 1",
                "parts 2 : 0 210 40 10 60 2", "parts 3 : 0 0 -50 10 70 3", "parts 4 : 0 100 -50 10 80 4",
                "parts 5 : 0 220 -50 10 40 5"));
        sentence("a MATRIX of three rows and two columns",
            lines(six, "matrix 3 2 = 7", "run 7 = 6", "box 180 150 110", "parts 0 : 0 20 90 10 40 0",
                "parts 1 : 0 120 90 10 50 1",
                "parts 2 : 0 10 0 10 60 2", "parts 3 : 0 110 0 10 70 3", "parts 4 : 0 0 -110 10 80 4",
                "parts 5 : 0 125 -110 10 40 5"));
        String[] twice = {"run 3 = 2", "parts 0 : 0 0 -5 10 40 0", "parts 1 : 0 50 5 10 70 3", "box 120 55 15"};
        sentence("two matrices side by side, each of its own lists, laid out twice",
            lines("atom 8 0", "atom 0 3", "atom 8 0", "atom 0 0", "atom 8 0", "matrix 1 1 = 3", "matrix 1 1 = 4",
                twice, twice));
        sentence("an empty list's matrix: nothing at the axis, the depth is 0 at least",
            "2 * atom 8 0", "matrix 1 1 = 1", "run 2 = 0", "box 0 20 0");
        sentence("empty rows and columns: what is between them stays",
            "5 * atom 8 0", "matrix 2 2 = 1", "run 5 = 0", "box 30 30 0");
        sentence("a row of five, a column apart each 3 Z",
            "6 * atom 8 0", "matrix 1 5 = 1", "run 6 = 0", "box 120 20 0");
        sentence("a column of five, a row apart each 2 Z",
            "6 * atom 8 0", "matrix 5 1 = 1", "run 6 = 0", "box 0 60 20");
        sentence("of a row the highest and the deepest may be two",
            "atom 8 0", "atom 0 2", "atom 8 0", "atom 0 3", "atom 8 0", "matrix 1 2 = 3", "run 3 = 2", "box 160 65 25",
            "parts 0 : 0 0 -5 10 60", "parts 1 : 0 90 -5 10 70");
    }

    private static void listLayouts() {
        sentence("an empty LIST has width, height and depth 0", "atom 8 0", "run 1 = 0", "box 0 0 0");
        sentence("a LIST of style nodes alone has no width", "style 0 false", "style 3 true", "run 0 = 0", "box 0 0 0");
        sentence("a style node changes the style for those behind it",
            "atom 0 0", "style 2 false", "atom 0 0", "style 3 false", "atom 0 0", "style 0 false", "atom 1 0",
            "run 0 = 4", "item 0 3 = 10", "item 1 3 = 7", "item 2 3 = 5", "item 3 3 = 14");
        sentence("a style node changes the style in its list alone",
            "2 * atom 0 0", "atom 8 0", "style 3 true", "atom 0 0", "script 0 true 1", "run 0 = 3", "item 0 3 = 10",
            "item 1 3 = 5", "item 2 3 = 10");
        sentence("a style node in a script may make it greater",
            "atom 0 0", "atom 8 0", "style 0 false", "atom 1 0", "script 0 true 1", "run 0 = 2", "item 1 3 = 14");
        sentence("a style node behind the last atom changes nothing", "atom 0 0", "style 3 true", "run 0 = 1",
            "box 40 50 0");
        sentence("a style node changes whether it is cramped, and back",
            "style 0 true", "atom 0 0", "style 0 false", "atom 0 0", "atom 8 0", "atom 0 0", "atom 8 0", "atom 0 0",
            "script 1 true 1", "script 3 true 2", "run 0 = 4", "item 1 2 = 30", "item 3 2 = 40");
        sentence("height and depth are the greatest, of whichever atom",
            "atom 0 0", "atom 0 2", "atom 0 3", "atom 0 0", "run 0 = 4", "box 210 70 20");
        sentence("items in the order nucleus, upper, lower, whichever was put first",
            "atom 0 0", "atom 8 0", "atom 0 1", "atom 8 0", "atom 0 2", "script 0 false 1 = 1", "script 0 true 2 = 2",
            "run 0 = 3", "item 0 6 = 0", "item 1 6 = 2", "item 2 6 = 1");
        sentence("items in the order of a fraction: upper, lower, rule",
            "atom 8 0", "atom 0 1", "atom 8 0", "atom 0 2", "atom 8 0", "fraction 2 1 4 = 2", "run 3 = 3", "item 0 6 = 1",
            "item 1 6 = 0", "item 2 6 = 2", "item 2 0 = 1");
        sentence("items in the order of a fence: left, list, right, then its scripts",
            "atom 8 0", "atom 0 0", "atom 8 0", "fence 2 1 2 = 2", "atom 8 0", "atom 0 9", "script 1 true 3", "run 2 = 4",
            "item 0 0 = 2", "item 1 0 = 0", "item 2 0 = 2", "item 3 5 = 9");
        sentence("items in the order of a matrix: row by row",
            "atom 8 0", "atom 0 0", "atom 8 0", "atom 0 1", "atom 8 0", "atom 0 2", "atom 8 0", "atom 0 3", "atom 8 0",
            "atom 0 4", "atom 8 0", "atom 0 5", "atom 8 0", "matrix 3 2 = 7", "run 7 = 6", "item 0 6 = 0", "item 1 6 = 1",
            "item 2 6 = 2", "item 3 6 = 3", "item 4 6 = 4", "item 5 6 = 5");
    }

    // Where several exceptions fit, it is the one that the call names first

    private static void firstNamed() {
        String[] full = {"120 * atom 0 0", "3 * atom 8 0"};
        sentence("atom: IllegalArgumentException before UnsupportedOperationException",
            lines(full, "26 * atom 8 0", "atom 9 0 ! Argument", "atom -1 0 ! Argument", "atom 0 256 ! Argument",
                "atom 7 -1 ! Argument", "atom 0 0 ! Unsupported", "atom 8 256 ! Unsupported"));
        sentence("script: NoSuchElementException before IllegalStateException",
            "atom 0 0", "style 0 false", "2 * atom 8 0", "script 0 true 1 = 1", "script 0 true 3 ! Element",
            "script 1 true 1 ! Element", "script 1 true 0 ! Element", "script 2 true 1 ! Element",
            "script 0 true 2 ! State");
        sentence("fraction: NoSuchElementException first",
            lines(full, "fraction 4 1 1001 ! Element", "fraction 1 4 1001 ! Element", "fraction 4 4 0 ! Element",
                "fraction 0 4 0 ! Element", "fraction -1 1 0 ! Element", "fraction 1 -1 0 ! Element"));
        sentence("fraction: then IllegalArgumentException",
            lines(full, "fraction 1 1 1001 ! Argument", "fraction 0 1 1001 ! Argument", "fraction 1 3 1001 ! Argument",
                "fraction 1 2 1001 ! Argument"));
        sentence("fraction: then IllegalStateException",
            lines(full, "fraction 1 1 0 ! State", "fraction 0 1 0 ! State", "fraction 1 0 0 ! State",
                "fraction 3 1 0 ! State", "fraction 1 3 0 ! State"));
        sentence("fraction: then UnsupportedOperationException", lines(full, "fraction 1 2 0 ! Unsupported"));
        sentence("fence: NoSuchElementException first",
            lines(full, "fence 6 4 1 ! Element", "fence 1 4 -1 ! Element", "fence 1 -1 1 ! Element",
                "fence 1 4 2 ! Element"));
        sentence("fence: then IllegalArgumentException",
            lines(full, "fence 6 0 1 ! Argument", "fence 1 3 -1 ! Argument", "fence 6 1 6 ! Argument"));
        sentence("fence: then IllegalStateException, balanced or not",
            lines(full, "fence 1 0 1 ! State", "fence 1 3 1 ! State", "fence 1 3 2 ! State", "fence 0 0 0 ! State"));
        sentence("fence: then UnsupportedOperationException, balanced or not",
            lines(full, "fence 1 1 1 ! Unsupported", "fence 1 1 2 ! Unsupported", "fence 0 1 0 ! Unsupported"));
        sentence("style: IllegalArgumentException before UnsupportedOperationException",
            lines(full, "style 4 false ! Argument", "style -1 true ! Argument", "style 3 true ! Unsupported"));
        sentence("split: NoSuchElementException, then IndexOutOfBoundsException, then UnsupportedOperationException",
            "atom 3 0", "29 * atom 8 0", "split 30 0 ! Element", "split 30 9 ! Element", "split -1 -1 ! Element",
            "split 0 1 ! Index", "split 0 -1 ! Index", "split 29 0 ! Index", "split 0 0 ! Unsupported");
    }

    // The promises

    private static void atomAndScript() {
        sentence("1: a new object: list 0, which is open, and nothing else",
            "kind 0 ! Element", "run 1 ! Element", "item 0 0 ! Index", "box 0 0 0", "run 0 = 0", "atom 0 0 = 0",
            "run 0 = 1");
        sentence("2: kind 0 .. 7", "atom " + MIN + " 0 ! Argument", "atom -1 0 ! Argument", "atom 0 0 = 0",
            "atom 7 0 = 1", "atom 9 0 ! Argument", "atom " + MAX + " 0 ! Argument", "atom 0 0 = 2");
        sentence("2: a sign (0 .. 255)", "atom 0 " + MIN + " ! Argument", "atom 0 -1 ! Argument", "atom 0 0 = 0",
            "atom 0 255 = 1",
            "atom 0 256 ! Argument", "atom 0 " + MAX + " ! Argument", "atom 7 256 ! Argument", "run 0 = 2",
            "item 1 5 = 255");
        sentence("2: kind 8: nucleus does not matter",
            "atom 8 -1 = 1", "atom 8 256 = 2", "atom 8 " + MIN + " = 3", "atom 8 " + MAX + " = 4", "atom 0 0 = 0",
            "run 4 = 1");
        sentence("2: 120 nodes: no atom, but a list", "120 * atom 0 0", "atom 0 0 ! Unsupported", "atom 8 0 = 1",
            "run 1 = 0");
        sentence("2: 30 lists: no list, but an atom", "29 * atom 8 0", "atom 8 0 ! Unsupported", "atom 0 0 = 0",
            "run 29 = 1");
        sentence("3: how many scripts the atom has", "atom 0 0", "2 * atom 8 0", "script 0 false 1 = 1",
            "script 0 true 2 = 2", "atom 0 0", "2 * atom 8 0", "script 1 true 3 = 1", "script 1 false 4 = 2");
        sentence("3: no such atom", "atom 0 0", "atom 8 0", "script -1 true 1 ! Element", "script 1 true 1 ! Element",
            "script " + MAX + " false 1 ! Element", "script " + MIN + " false 1 ! Element");
        sentence("3: no such list", "atom 0 0", "atom 8 0", "script 0 true -1 ! Element", "script 0 true 2 ! Element",
            "script 0 false " + MAX + " ! Element", "script 0 false " + MIN + " ! Element");
        sentence("3: also for a style node", "style 0 false", "atom 8 0", "script 0 true 1 ! Element",
            "script 0 false 1 ! Element");
        sentence("3: it has one there, upper", "atom 0 0", "2 * atom 8 0", "script 0 true 1 = 1",
            "script 0 true 2 ! State", "script 0 true 1 ! State", "script 0 false 2 = 2");
        sentence("3: it has one there, lower", "atom 0 0", "2 * atom 8 0", "script 0 false 1 = 1",
            "script 0 false 2 ! State", "script 0 false 1 ! State", "script 0 true 2 = 2", "script 0 true 2 ! State");
        sentence("3: the open list may come into an atom of another list", "atom 0 0", "atom 8 0", "script 0 true 1 = 1");
        sentence("3: a fraction, a fence and a matrix have scripts too",
            "8 * atom 8 0", "fraction 1 2 0 = 0", "fence 1 3 1 = 2", "matrix 1 1 = 3", "script 0 true 4 = 1",
            "script 1 true 5 = 1", "script 2 false 6 = 1", "script 2 true 7 ! State");
    }

    private static void fractionAndFence() {
        String[] three = {"3 * atom 8 0"};
        sentence("4: no such list", lines(three, "fraction -1 1 0 ! Element", "fraction 1 -1 0 ! Element",
            "fraction 4 1 0 ! Element", "fraction 1 4 0 ! Element", "fraction " + MIN + " " + MAX + " 0 ! Element"));
        sentence("4: rule is above 1000", lines(three, "fraction 1 2 1001 ! Argument",
            "fraction 1 2 4294967296 ! Argument",
            "fraction 1 2 4294967295 ! Argument", "fraction 1 2 " + Long.MAX_VALUE + " ! Argument",
            "fraction 1 2 1000 = 0"));
        sentence("4: they are one", lines(three, "fraction 1 1 0 ! State", "fraction 2 2 -1 ! State",
            "fraction 1 2 0 = 0"));
        sentence("4: one is not free, or the open one", lines(three, "fraction 0 1 0 ! State", "fraction 1 0 0 ! State",
            "fraction 3 1 0 ! State", "fraction 1 3 0 ! State", "fraction 2 1 0 = 0", "fraction 2 1 0 ! State"));
        sentence("4: its number, which is not one more", "atom 0 0", three[0], "fraction 1 2 0 = 1");
        sentence("4: 120 nodes", lines("119 * atom 0 0", three, "style 0 false", "fraction 1 2 0 ! Unsupported"));
        for (int left = 0; left <= 5; left++) {
            for (int right = 0; right <= 5; right++) {
                boolean balanced = left == right ? left != 0 : left * right == 0;
                String call = "fence " + left + " 1 " + right;
                sentence("5: " + (balanced ? "its number and 1: " : "0 when it is UNBALANCED: ") + call,
                    "2 * atom 8 0",
                    call + (balanced ? " = 1" : " ~ 0"), "run 2 = " + (balanced ? Math.min(left, 1) + Math.min(right, 1) : 0),
                    "atom 0 0 = " + (balanced ? 1 : 0));
            }
        }
        sentence("5: no such list", "2 * atom 8 0", "fence 1 3 1 ! Element", "fence 1 -1 1 ! Element",
            "fence 1 " + MAX + " 1 ! Element",
            "fence 1 " + MIN + " 1 ! Element");
        sentence("5: one is not 0 .. 5", "2 * atom 8 0", "fence 6 1 1 ! Argument", "fence 1 1 6 ! Argument",
            "fence -1 1 1 ! Argument",
            "fence 1 1 -1 ! Argument", "fence 6 1 0 ! Argument", "fence 0 1 -1 ! Argument", "fence 6 1 6 ! Argument",
            "fence " + MAX + " 1 0 ! Argument", "fence 0 1 " + MIN + " ! Argument", "fence 5 1 5 = 1");
        sentence("5: the list is not free, or the open one", "2 * atom 8 0", "fence 1 2 1 ! State", "fence 0 0 1 ! State",
            "fence 1 1 0 = 1", "fence 1 1 0 ! State");
        sentence("5: an unbalanced one leaves its list free", "2 * atom 8 0", "fence 1 1 2 ~ 0", "fence 2 1 2 = 1");
        sentence("5: 120 nodes", "120 * atom 0 0", "2 * atom 8 0", "fence 1 1 1 ! Unsupported");
    }

    private static void matrices() {
        String[] wrongSides = {"0", "6", "-1", "" + MIN, "" + MAX};
        for (String side : wrongSides) {
            sentence("6: 0 when rows or columns are not 1 .. 5: " + side, "8 * atom 8 0", "matrix " + side + " 1 ~ 0",
                "matrix 1 " + side + " ~ 0", "matrix " + side + " " + side + " ~ 0", "matrix 1 1 = 1");
        }
        sentence("6: a product that would fit is not enough", "8 * atom 8 0", "matrix -1 -1 ~ 0", "matrix -2 -3 ~ 0",
            "matrix 6 1 ~ 0", "matrix 1 6 ~ 0", "matrix 65536 65536 ~ 0");
        for (int rows = 1; rows <= 5; rows++) {
            for (int columns = 1; columns <= 5; columns++) {
                int cells = rows * columns;
                String call = "matrix " + rows + " " + columns;
                sentence("6: just so many lists: " + call, cells + " * atom 8 0", call + " ~ 0", "atom 8 0",
                    call + " = 1", call + " ~ 0",
                    "kind 0 = 7", "run " + (cells + 1) + " = 0",
                    "box " + 30 * (columns - 1) + " " + (20 + 10 * (rows - 1)) + " "
                        + Math.max(0, 10 * (rows - 1) - 20));
            }
        }
        sentence("6: there are not so many: list 0 and the open one do not count", "matrix 1 1 ~ 0", "atom 8 0",
            "matrix 1 1 ~ 0", "atom 8 0", "matrix 1 2 ~ 0", "matrix 1 1 = 1");
        sentence("6: those that began last", "atom 8 0", "atom 0 1", "atom 8 0", "atom 0 2", "atom 8 0", "atom 0 3",
            "atom 8 0",
            "matrix 1 2 = 4", "run 4 = 2", "item 0 5 = 2", "item 1 5 = 3", "matrix 1 1 = 5", "run 4 = 3", "item 2 5 = 1");
        sentence("6: those that are not free are passed over", "atom 0 9", "atom 8 0", "atom 0 1", "atom 8 0",
            "atom 0 2", "atom 8 0", "atom 0 3",
            "script 0 true 2", "atom 8 0", "matrix 1 2 = 5", "run 4 = 2", "item 0 5 = 1", "item 1 5 = 3");
        sentence("6: the open one is passed over where a split began later", "atom 8 0", "atom 0 1", "atom 3 2",
            "atom 8 0", "atom 0 9",
            "split 1 0 = 3", "matrix 2 1 = 4", "run 2 = 3", "item 1 5 = 1", "item 2 5 = 2", "matrix 1 1 ~ 0");
        sentence("6: 0 when there would be a ring", "atom 8 0", "atom 0 0", "atom 8 0", "script 0 true 2",
            "matrix 1 1 ~ 0", "atom 0 0 = 1");
        sentence("6: 0 when there would be a ring, by the first of them", "atom 8 0", "atom 0 0", "2 * atom 8 0",
            "script 0 true 3", "matrix 1 2 ~ 0", "matrix 2 1 ~ 0", "matrix 1 1 = 2", "matrix 1 1 ~ 0");
        sentence("6: 0 when there would be a ring, by the last of them", "2 * atom 8 0", "atom 0 0", "atom 8 0",
            "script 0 true 3", "matrix 1 2 ~ 0", "matrix 1 1 ~ 0", "fence 1 1 1 = 2");
        sentence("6: no ring where the list that would make it is not taken", "atom 8 0", "atom 0 0", "3 * atom 8 0",
            "script 0 true 4", "matrix 1 2 = 2", "matrix 1 1 ~ 0");
        sentence("6: 120 nodes", "120 * atom 0 0", "2 * atom 8 0", "matrix 1 1 ! Unsupported");
        sentence("6: 120 nodes, where it would be 0 too", "120 * atom 0 0", "matrix 0 1 ! Unsupported",
            "matrix 1 6 ! Unsupported", "matrix 1 1 ! Unsupported");
    }

    private static void stylesAndRuns() {
        sentence("7: a style node (0 .. 3)", "style -1 false ! Argument", "style 0 false = 0", "style 3 true = 1",
            "style 4 true ! Argument",
            "style " + MIN + " false ! Argument", "style " + MAX + " true ! Argument", "style 1 true = 2");
        sentence("7: 120 nodes", "120 * atom 0 0", "style 0 false ! Unsupported");
        sentence("8: no such list", "run -1 ! Element", "run 1 ! Element", "run 30 ! Element",
            "run " + MIN + " ! Element",
            "run " + MAX + " ! Element", "run 0 = 0");
        sentence("8: in display, also a list that is in an atom", "style 3 true", "atom 0 0", "atom 8 0", "atom 1 0",
            "script 1 true 1", "run 0 = 2", "item 1 3 = 5", "run 1 = 1", "item 0 3 = 14");
        sentence("8: not cramped, also behind a run that was", "style 0 true", "atom 0 0", "atom 8 0", "atom 0 0",
            "atom 8 0", "atom 0 0",
            "script 1 true 1", "script 2 true 2", "run 0 = 3", "item 2 2 = 51", "run 1 = 2", "item 1 2 = 40");
        sentence("8: a list that has become smaller", "atom 0 0", "atom 3 3", "atom 0 2", "run 0 = 3", "box 230 70 20",
            "split 0 0 = 1", "run 0 = 1", "box 40 50 0");
        sentence("8: a list that was laid out in display, and is a script now", "atom 0 0", "atom 8 0", "atom 0 3",
            "run 1 = 1",
            "box 70 50 20", "script 0 true 1", "run 0 = 2", "box 94 75 0", "script 0 true 1 ! State", "run 1 = 1",
            "box 70 50 20");
        sentence("8: an atom that was laid out in display, and is in a fraction now", "atom 8 0", "atom 0 3",
            "atom 8 0", "atom 0 3",
            "run 1 = 1", "run 2 = 1", "atom 8 0", "style 1 false", "fraction 1 2 0", "run 3 = 2", "box 59 79 39");
        sentence("8: a second run tells of the second alone", "2 * atom 0 3", "atom 8 0", "run 0 = 2", "run 1 = 0",
            "item 0 0 ! Index", "box 0 0 0", "run 0 = 2", "box 140 50 20");
    }

    private static void itemsAndSpaces() {
        sentence("9: the box without one", "box 0 0 0", "item -1 3 ! Index", "item -1 -1 ! Index", "item 0 0 ! Index");
        sentence("9: i = -1: 0 width, 1 height, 2 depth, and no more", "atom 0 3", "run 0 = 1", "box 70 50 20",
            "item -1 3 ! Index",
            "item -1 7 ! Index", "item -1 -1 ! Index", "item -1 " + MAX + " ! Index", "item -1 " + MIN + " ! Index");
        sentence("9: of item i: 0 .. 7", "atom 0 3", "run 0 = 1", "parts 0 : 0 0 0 10 70 3 0 0", "item 0 8 ! Index",
            "item 0 -1 ! Index", "item 0 " + MAX + " ! Index", "item 0 " + MIN + " ! Index");
        sentence("9: no such item", "2 * atom 0 3", "run 0 = 2", "item 1 0 = 0", "item 2 0 ! Index", "item -2 0 ! Index",
            "item " + MAX + " 0 ! Index", "item " + MIN + " 0 ! Index", "item 536870912 0 ! Index",
            "item -536870912 1 ! Index");
        sentence("9: an empty layout", "atom 0 3", "run 0 = 1", "atom 8 0", "run 1 = 0", "item 0 0 ! Index", "box 0 0 0");
        sentence("9: of the box that was laid out last, as it was then", "atom 0 3", "run 0 = 1", "atom 3 0",
            "style 1 false",
            "split 0 0 = 1", "box 70 50 20", "parts 0 : 0 0 0 10 70 3 0 0", "item 1 0 ! Index", "run 9 ! Element",
            "box 70 50 20", "run 1 = 1", "box 40 50 0", "item 0 6 = 1");
        sentence("9: a rule: its height, 0 for the sign, the node", lines(fractionIn("1 false",
            6, 0, 0, 3), "parts 2 : 1 0 17 6 38 0 3 0"));
        sentence("9: SHORT is 1 of a delimiter alone", lines(highFence("0 false", 206), "item 0 7 = 1", "item 1 7 = 0",
            "item 2 7 = 0", "item 3 7 = 1"));
        sentence("9: SHORT is 0 again in the next run", lines(highFence("0 false", 206), "item 0 7 = 1", "run 1 = 1",
            "item 0 7 = 0"));
        String[] rows = {"01230001", "11030001", "22002002", "33003003", "00000000", "01230001", "11011111", "11231011"};
        for (int a = 0; a < 8; a++) {
            List<String> row = new ArrayList<>();
            for (int b = 0; b < 8; b++) {
                row.add("space " + a + " " + b + " = " + rows[a].charAt(b));
            }
            sentence("10: the space between two kinds in display, row " + a, row.toArray(new String[0]));
        }
        for (String kind : new String[] {"-1", "8", "" + MIN, "" + MAX}) {
            sentence("10: one is not 0 .. 7: " + kind, "space " + kind + " 0 ! Argument",
                "space 0 " + kind + " ! Argument",
                "space " + kind + " 7 ! Argument", "space 7 " + kind + " ! Argument",
                "space " + kind + " " + kind + " ! Argument");
        }
        sentence("10: in display, whatever the style nodes say", "style 3 false", "atom 0 0", "space 0 3 = 3",
            "space 0 7 = 1");
    }

    private static void kindsAndSplits() {
        sentence("11: no such node", "kind -1 ! Element", "kind 0 ! Element", "atom 0 0", "kind 1 ! Element",
            "kind " + MIN + " ! Element",
            "kind " + MAX + " ! Element", "kind 0 = 0");
        sentence("11: also for a style node", "style 0 false", "atom 7 0", "kind 0 ! Element", "kind 1 = 7");
        sentence("11: as its list is now", "atom 0 0", "atom 2 0", "kind 1 = 0", "style 0 false", "kind 1 = 0",
            "atom 0 0", "kind 1 = 2",
            "atom 2 0", "kind 3 = 0", "atom 3 0", "kind 3 = 0", "kind 1 = 2");
        sentence("12: no such list", "atom 3 0", "split 1 0 ! Element", "split -1 0 ! Element",
            "split " + MIN + " 0 ! Element",
            "split " + MAX + " 0 ! Element", "split 30 0 ! Element");
        sentence("12: it has none such", "split 0 0 ! Index", "2 * atom 3 0", "atom 2 0", "split 0 -1 ! Index",
            "split 0 2 ! Index",
            "split 0 " + MIN + " ! Index", "split 0 " + MAX + " ! Index", "split 0 1 = 1", "split 0 1 ! Index");
        sentence("12: relations of other lists do not count", "atom 3 0", "atom 8 0", "atom 0 0", "split 1 0 ! Index",
            "split 0 0 = 2");
        for (int kind = 0; kind < 8; kind++) {
            sentence("12: a relation by its own kind: " + kind, "atom 0 0", "atom " + kind + " 0",
                "split 0 0 " + (kind == 3 ? "= 1" : "! Index"));
        }
        sentence("12: a style node, a fraction, a fence and a matrix are no relations", "5 * atom 8 0",
            "style 3 false", "fraction 1 2 3",
            "fence 3 3 3", "matrix 1 1", "split 5 0 ! Index");
        sentence("12: that one and all behind it", "atom 0 0", "atom 3 1", "atom 0 2", "atom 3 3", "atom 0 4",
            "split 0 1 = 1", "run 0 = 3",
            "item 2 5 = 2", "run 1 = 2", "item 0 5 = 3", "item 1 5 = 4");
        sentence("12: the first atom is the relation: nothing is left", "atom 3 0", "atom 0 1", "split 0 0 = 1",
            "run 0 = 0", "run 1 = 2",
            "split 0 0 ! Index", "split 1 0 = 2", "run 1 = 0", "run 2 = 2");
        sentence("12: the last atom is the relation: it alone", "atom 0 0", "atom 3 1", "split 0 0 = 1", "run 0 = 1",
            "run 1 = 1");
        sentence("12: style nodes before it stay, those behind go along", "atom 0 0", "style 3 false", "atom 3 1",
            "style 2 false", "atom 0 2",
            "split 0 0 = 1", "run 1 = 2", "item 0 3 = 10", "item 1 3 = 7", "run 0 = 1", "item 0 3 = 10");
        sentence("12: scripts go along", "atom 3 0", "atom 8 0", "atom 0 5", "script 0 true 1", "split 0 0 = 2",
            "run 0 = 0", "run 2 = 2",
            "fence 1 1 1 ! State");
        sentence("12: the new one is the open one if this one was", "atom 3 0", "split 0 0 = 1", "atom 0 1 = 1",
            "run 0 = 0", "run 1 = 2",
            "fence 1 1 1 ! State");
        sentence("12: the new one is not the open one if this one was not", "atom 3 0", "atom 8 0", "split 0 0 = 2",
            "atom 0 1 = 1", "run 1 = 1", "run 2 = 1", "fence 1 2 1 = 3", "run 1 = 4");
        sentence("12: the new one is free, also where this one is list 0 or in an atom", "atom 0 9", "atom 3 0",
            "atom 8 0", "atom 3 1",
            "script 0 true 1 = 1", "split 1 0 = 2", "split 0 0 = 3", "script 0 false 3 = 2", "run 0 = 2",
            "fence 1 1 1 ! State", "atom 8 0", "fence 1 2 1 = 4");
        sentence("12: 30 lists", "atom 3 0", "29 * atom 8 0", "split 0 0 ! Unsupported", "run 0 = 1", "run 29 = 0");
    }

    public static void main(String[] args) {
        howMany();
        openList();
        freeLists();
        rings();
        countedKinds();
        spaceWidths();
        spaceTable();
        signs();
        scriptStyles();
        upperLine();
        lowerLine();
        scriptsApart();
        unusualNuclei();
        limits();
        fractionLayouts();
        fenceSteps();
        fenceBoxes();
        matrixLayouts();
        listLayouts();
        firstNamed();
        atomAndScript();
        fractionAndFence();
        matrices();
        stylesAndRuns();
        itemsAndSpaces();
        kindsAndSplits();
        String end = wrong == 0 ? "all answers are as due" : wrong + " answers are not as due";
        System.out.println(sentences + " sentences; " + end);
        if (wrong != 0) {
            System.exit(1);
        }
    }
}

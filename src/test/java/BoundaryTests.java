import java.util.Arrays;

/**
 * Each boundary that the document names, promise by promise, on both its sides: the last number that is as told with
 * the answer that is due, the first that is not with its refusal. RefusalTests has what a refusal leaves behind.
 */
public final class BoundaryTests {
    private static final int NONE = StylePapers.NONE;
    private static final int BAD = StylePapers.BAD;
    private static final int NO = StylePapers.NO;
    private static final int FULL = StylePapers.FULL;
    private static int wrong = 0;
    private static int promise = 0;

    private interface Ask {
        long at(int v);
    }

    private static void due(String call, long got, long want) {
        if (got != want) {
            wrong++;
            System.out.println("promise " + promise + ": " + call + " answered " + got + ", due is " + want);
        }
    }

    /** From low to high is as told, with these answers at both ends; what lies next to them is BAD. */
    private static void edges(String call, int low, int high, Ask ask, long atLow, long atHigh) {
        due(call + " " + (low - 1), ask.at(low - 1), BAD);
        due(call + " " + low, ask.at(low), atLow);
        due(call + " " + high, ask.at(high), atHigh);
        due(call + " " + (high + 1), ask.at(high + 1), BAD);
    }

    public static void main(String[] args) {
        Runnable[] promises = {
            BoundaryTests::aNewObject, BoundaryTests::on, BoundaryTests::puts, BoundaryTests::names,
            BoundaryTests::voters, BoundaryTests::draw, BoundaryTests::follows, BoundaryTests::undo,
            BoundaryTests::of, BoundaryTests::type, BoundaryTests::clear, BoundaryTests::does,
            BoundaryTests::styles, BoundaryTests::style, BoundaryTests::without, BoundaryTests::border,
            BoundaryTests::beside, BoundaryTests::unlike, BoundaryTests::odd, BoundaryTests::paper,
            BoundaryTests::faces, BoundaryTests::contest, BoundaryTests::room, BoundaryTests::rule,
            BoundaryTests::leads, BoundaryTests::lead, BoundaryTests::fair, BoundaryTests::place,
            BoundaryTests::told, BoundaryTests::digest,
        };
        for (Runnable each : promises) {
            promise++;
            each.run();
        }
        System.out.println(wrong == 0 ? "all boundaries hold" : wrong + " answers are not as due");
        if (wrong != 0) {
            System.exit(1);
        }
    }

    private static void write(StylePapers x, String text) {
        x.clear();
        for (char c : text.toCharArray()) {
            x.type(c);
        }
    }

    /** Layer 0 has a district a column, layer 3 one a row: each block is a style of its own, if both are on. */
    private static StylePapers allApart() {
        StylePapers x = new StylePapers();
        for (int c = 0; c < 4; c++) {
            x.puts(0, c, c, 20 + c);
        }
        for (int r = 0; r < 6; r++) {
            x.puts(3, r, 4 * r, 4 * r + 3);
        }
        x.on(3, 1);
        return x;
    }

    /** One style, with contests of these heights (3 to 10) in layers 0, 1, .. */
    private static StylePapers withHeights(int columns, int depth, int... heights) {
        StylePapers x = new StylePapers();
        x.paper(0, columns);
        x.paper(1, depth);
        for (int l = 0; l < heights.length; l++) {
            x.on(l, 1);
            x.names(l, 0, heights[l] - 2);
        }
        return x;
    }

    private static void aNewObject() {
        StylePapers x = new StylePapers();
        for (int a : new int[] {0, 23}) {
            due("voters of " + a, x.of(a, 0), 1);
            due("style of " + a, x.of(a, 1), 0);
            for (int l = 0; l < 4; l++) {
                due("district of " + a + " in " + l, x.of(a, 2 + l), 0);
            }
        }
        due("layers on", x.told(7), 1);
        due("layer 0 is on", x.leads(0, 0), 0);
        for (int l = 1; l < 4; l++) {
            due("layer " + l + " is off", x.leads(0, l), NONE);
        }
        for (int l = 0; l < 4; l++) {
            for (int d = 0; d < 6; d++) {
                due("two names of " + l + " " + d, x.names(l, d, 2), 2);
            }
        }
        int[] counters = {0, 0, 0, 0, 2, 12, 0};
        StylePapers y = new StylePapers();
        for (int what = 0; what < 7; what++) {
            due("told " + what, y.told(what), counters[what]);
        }
        due("nothing to undo", y.undo(), NO);
        due("an empty text", y.clear(), 0);
        // Objects share nothing.
        y.voters(0, 5);
        y.type('a');
        due("another object's voters", new StylePapers().of(0, 0), 1);
        due("another object's text", new StylePapers().told(3), 0);
    }

    private static void on() {
        StylePapers x = new StylePapers();
        edges("on, l", 0, 3, l -> x.on(l, 1), 0, 1);
        due("layers", x.told(7), 9);
        edges("on, to", 0, 1, to -> x.on(2, to), 0, 1);
        due("layers", x.told(7), 13);
        edges("on, l to 0", 0, 3, l -> x.on(l, 0), 1, 1);
        due("layers", x.told(7), 4);
        due("the last one on", x.on(2, 0), 1);
        due("no layer", x.told(7), 0);
        for (int l = 0; l < 4; l++) {
            due("on " + l, x.on(l, 1), 1);
        }
        due("all layers", x.told(7), 15);
        due("refused", x.told(0), 6);
    }

    private static void puts() {
        StylePapers x = new StylePapers();
        edges("puts, l", 0, 3, l -> x.puts(l, 1, 23, 23), 1, 1);
        edges("puts, d", 0, 5, d -> x.puts(1, d, 0, 0), 0, 1);
        edges("puts, a up to 23", 0, 23, a -> x.puts(2, 3, a, 23), 24, 0);
        edges("puts, b from 0", 0, 23, b -> x.puts(2, 4, 0, b), 1, 23);
        due("block 23", x.of(23, 4), 4);
        // A row, a column: one BLOCK wide, one deep; next to them a's row or column is greater.
        due("a row", x.puts(3, 2, 20, 23), 4);
        due("a row, the wrong way round", x.puts(3, 2, 23, 20), BAD);
        due("a column", x.puts(3, 5, 0, 20), 6);
        due("a column, the wrong way round", x.puts(3, 5, 20, 0), BAD);
        due("one block", x.puts(1, 4, 6, 6), 1);
        due("one to the left", x.puts(1, 3, 6, 5), BAD);
        due("one above", x.puts(1, 3, 6, 2), BAD);
        due("below and left", x.puts(1, 3, 6, 9), BAD);
        due("above and right", x.puts(1, 3, 6, 3), BAD);
        due("right", x.puts(1, 3, 6, 7), 2);
        due("below", x.puts(1, 2, 6, 10), 2);
        due("below and right", x.puts(1, 5, 6, 11), 4);
        due("refused", x.told(0), 4 * 2 + 6);
        // What lies around the rectangle stays.
        StylePapers y = new StylePapers();
        due("inside", y.puts(0, 5, 5, 14), 6);
        for (int a = 0; a < 24; a++) {
            boolean inside = a == 5 || a == 6 || a == 9 || a == 10 || a == 13 || a == 14;
            due("block " + a, y.of(a, 2), inside ? 5 : 0);
        }
    }

    private static void names() {
        StylePapers x = new StylePapers();
        edges("names, l", 0, 3, l -> x.names(l, 4, 3), 2, 2);
        edges("names, d", 0, 5, d -> x.names(2, d, 4), 2, 2);
        edges("names, n", 1, 8, n -> x.names(0, 0, n), 2, 1);
        due("eight", x.lead(0, 0, 7), 3);
        due("its height", x.contest(0, 0, 2), 10);
        due("one again", x.names(0, 0, 1), 8);
        due("no second", x.lead(0, 0, 1), NONE);
        due("its height", x.contest(0, 0, 2), 3);
        due("refused", x.told(0), 6);
    }

    private static void voters() {
        StylePapers x = new StylePapers();
        edges("voters, a", 0, 23, a -> x.voters(a, 7), 1, 1);
        edges("voters, n", 0, 99, n -> x.voters(4, n), 1, 0);
        due("99", x.of(4, 0), 99);
        due("none", x.voters(4, 0), 99);
        due("none", x.of(4, 0), 0);
        due("refused", x.told(0), 4);
        for (int a = 0; a < 24; a++) {
            x.voters(a, 99);
        }
        due("the most of all", x.style(0, 1), 24 * 99);
        for (int a = 0; a < 24; a++) {
            x.voters(a, 0);
        }
        due("the fewest of all", x.style(0, 1), 0);
        due("no papers", x.room(0, 1), 0);
    }

    private static void drawn(int l, int seed, int n, int all, int[] districts, int[] people) {
        StylePapers x = new StylePapers();
        due("draw " + seed + " " + n, x.draw(l, seed, n), all);
        for (int a = 0; a < 24; a++) {
            due("draw " + seed + " " + n + ": voters of " + a, x.of(a, 0), people[a]);
            for (int k = 0; k < 4; k++) {
                due("draw " + seed + " " + n + ": district of " + a, x.of(a, 2 + k), k == l ? districts[a] : 0);
            }
        }
    }

    private static void draw() {
        StylePapers x = new StylePapers();
        edges("draw, l", 0, 3, l -> x.draw(l, 0, 6), 349, 349);
        edges("draw, seed", 0, 999999, seed -> x.draw(1, seed, 6), 349, 337);
        edges("draw, n", 1, 6, n -> x.draw(2, 1, n), 319, 319);
        due("refused", x.told(0), 6);
        // These rows were worked out apart from any Java, by whole numbers without a bound.
        int[] from0 = {0, 0, 4, 1, 0, 1, 1, 1, 2, 4, 3, 4, 1, 2, 3, 3, 4, 1, 2, 3, 0, 1, 1, 5};
        int[] people0 = {12, 17, 1, 5, 19, 5, 4, 25, 21, 9, 6, 17, 29, 16, 1, 26, 0, 28, 27, 22, 3, 21, 10, 25};
        int[] fromLast = {4, 2, 1, 1, 4, 5, 5, 5, 0, 2, 3, 1, 5, 5, 4, 1, 5, 0, 5, 2, 5, 0, 0, 5};
        int[] peopleLast = {29, 12, 8, 4, 3, 3, 26, 10, 16, 5, 9, 20, 25, 29, 26, 0, 2, 28, 14, 4, 17, 21, 5, 21};
        int[] byFive = {0, 2, 2, 1, 1, 0, 2, 1, 0, 1, 3, 1, 0, 1, 3, 0, 3, 4, 2, 0, 0, 2, 2, 0};
        int[] peopleFive = {8, 23, 1, 21, 25, 29, 18, 16, 3, 27, 17, 28, 10, 15, 21, 25, 29, 4, 15, 10, 7, 17, 15, 15};
        drawn(0, 0, 6, 349, from0, people0);
        drawn(3, 0, 1, 349, new int[24], people0);
        drawn(3, 999999, 6, 337, fromLast, peopleLast);
        drawn(1, 999999, 1, 337, new int[24], peopleLast);
        drawn(2, 999998, 5, 399, byFive, peopleFive);
    }

    private static int[] districtsIn(StylePapers x, int l) {
        int[] all = new int[24];
        for (int a = 0; a < 24; a++) {
            all[a] = x.of(a, 2 + l);
        }
        return all;
    }

    private static void follows() {
        StylePapers x = new StylePapers();
        x.puts(0, 1, 0, 0);
        edges("follows, l", 0, 3, l -> x.follows(l, 0, 0), 0, 1);
        edges("follows, k", 0, 3, k -> x.follows(1, 0, k), 1, 0);
        edges("follows, way", 0, 3, way -> x.follows(2, way, 0), 1, 0);
        edges("columns, k", 0, 3, k -> x.follows(2, 1, k), 2, 2);
        edges("rows, k", 0, 3, k -> x.follows(2, 2, k), 2, 2);
        edges("the greater, k", 0, 3, k -> x.follows(2, 3, k), 0, 0);
        due("refused", x.told(0), 12);
        // All corners: 1 2 above, 3 4 below.
        StylePapers y = new StylePapers();
        y.puts(1, 1, 0, 0);
        y.puts(1, 2, 3, 3);
        y.puts(1, 3, 20, 20);
        y.puts(1, 4, 23, 23);
        int[] before = districtsIn(y, 1);
        due("columns", y.follows(1, 1, 1), 4);
        due("0 is of 2", y.of(0, 3), 2);
        due("3 is of 1", y.of(3, 3), 1);
        due("20 is of 4", y.of(20, 3), 4);
        due("23 is of 3", y.of(23, 3), 3);
        due("rows", y.follows(1, 2, 0), 4);
        due("0 is of 4", y.of(0, 3), 4);
        due("23 is of 1", y.of(23, 3), 1);
        y.follows(1, 1, 2);
        y.follows(1, 2, 3);
        due("each twice", Arrays.equals(districtsIn(y, 1), before) ? 1 : 0, 1);
        // l and k alike: nothing is otherwise, yet it is an edit.
        StylePapers z = new StylePapers();
        z.draw(3, 6, 6);
        due("its own", z.follows(3, 0, 3), 0);
        due("the greater of its own", z.follows(3, 3, 3), 0);
        due("edits", z.told(8), 3);
        z.puts(0, 5, 0, 23);
        due("a lesser one's", z.follows(0, 0, 1), 24);
        due("a lesser one's", many(districtsIn(z, 0), 0), 24);
        due("another's", z.follows(2, 3, 3), 24 - many(districtsIn(z, 3), 0));
        due("layer 3 stays", Arrays.equals(districtsIn(z, 3), districtsIn(z, 2)) ? 1 : 0, 1);
    }

    private static int many(int[] row, int v) {
        int many = 0;
        for (int each : row) {
            many += each == v ? 1 : 0;
        }
        return many;
    }

    private static void undo() {
        StylePapers x = new StylePapers();
        for (int n = 1; n <= 8; n++) {
            x.voters(0, 10 + n);
            due("can be undone", x.told(8), n);
        }
        for (int left = 7; left >= 0; left--) {
            due("undo", x.undo(), left);
            due("voters", x.of(0, 0), left == 0 ? 1 : 10 + left);
        }
        due("none is left", x.undo(), NO);
        due("as at first", x.of(0, 0), 1);
        // The ninth: the first is lost.
        for (int n = 1; n <= 9; n++) {
            x.voters(0, 20 + n);
        }
        due("eight yet", x.told(8), 8);
        for (int left = 7; left >= 0; left--) {
            due("undo", x.undo(), left);
        }
        due("the first stays", x.of(0, 0), 21);
        due("none is left", x.undo(), NO);
        due("NO", x.told(1), 2);
        undoAndOn();
        eachEditOnce();
        noEdits();
    }

    /** Some are undone, and others come: eight at most again, all of them right. */
    private static void undoAndOn() {
        StylePapers x = new StylePapers();
        for (int n = 1; n <= 8; n++) {
            x.voters(5, n);
        }
        x.undo();
        x.undo();
        due("five is left", x.undo(), 5);
        for (int n = 11; n <= 15; n++) {
            x.voters(5, n);
        }
        due("eight", x.told(8), 8);
        int[] due = {14, 13, 12, 11, 5, 4, 3, 2};
        for (int i = 0; i < 8; i++) {
            due("undo", x.undo(), 7 - i);
            due("voters", x.of(5, 0), due[i]);
        }
        due("older ones are lost", x.undo(), NO);
    }

    private static void eachEditOnce() {
        StylePapers x = new StylePapers();
        x.on(1, 1);
        due("on", x.told(8), 1);
        x.puts(1, 5, 0, 23);
        due("puts", x.told(8), 2);
        x.names(0, 0, 8);
        due("names", x.told(8), 3);
        x.voters(9, 9);
        due("voters", x.told(8), 4);
        x.draw(2, 2, 2);
        due("draw", x.told(8), 5);
        x.follows(3, 0, 2);
        due("follows", x.told(8), 6);
        write(x, "on 3;off 1;put 0 1 0 5;names 0 0 1;voters 0 98;");
        due("writing is none", x.told(8), 6);
        due("does", x.does(), 5);
        due("does, one for all", x.told(8), 7);
        due("undone: does", x.undo(), 6);
        due("layers", x.told(7), 3);
        due("district", x.of(5, 2), 0);
        due("names", x.lead(0, 0, 7) == NONE ? 1 : 0, 0);
        due("voters", x.of(0, 0) == 98 ? 1 : 0, 0);
        due("undone: follows", x.undo(), 5);
        due("district", many(districtsIn(x, 3), 0), 24);
        due("undone: draw", x.undo(), 4);
        due("district", many(districtsIn(x, 2), 0), 24);
        due("voters", x.style(0, 1), 23 + 9);
        due("undone: voters", x.undo(), 3);
        due("voters", x.style(0, 1), 24);
        due("undone: names", x.undo(), 2);
        due("names", x.lead(0, 0, 2), NONE);
        due("undone: puts", x.undo(), 1);
        due("district", many(districtsIn(x, 1), 0), 24);
        due("undone: on", x.undo(), 0);
        due("layers", x.told(7), 1);
        due("none", x.undo(), NO);
    }

    private static void noEdits() {
        StylePapers x = new StylePapers();
        x.paper(0, 3);
        x.paper(1, 30);
        x.paper(2, 3);
        x.type('o');
        x.clear();
        x.does();
        x.on(4, 1);
        x.puts(0, 1, 1, 0);
        x.names(0, 0, 9);
        x.voters(0, 100);
        x.draw(0, 1000000, 1);
        x.follows(0, 4, 0);
        due("papers, texts, faults and refusals are no edits", x.undo(), NO);
        x.type('a');
        x.voters(0, 2);
        x.paper(0, 1);
        x.type('b');
        due("undo", x.undo(), 0);
        due("the text stays", x.told(3), 2);
        due("columns stay", x.told(4), 1);
        due("depth stays", x.told(5), 30);
        due("the rule stays", x.told(6), 3);
        due("counts stay", x.told(0), 6);
    }

    private static void of() {
        StylePapers x = allApart();
        x.voters(0, 0);
        x.voters(23, 99);
        edges("of, a", 0, 23, a -> x.of(a, 0), 0, 99);
        edges("of, a's style", 0, 23, a -> x.of(a, 1), 0, 23);
        edges("of, a's district in layer 0", 0, 23, a -> x.of(a, 2), 0, 3);
        edges("of, a's district in layer 3", 0, 23, a -> x.of(a, 5), 0, 5);
        edges("of, what", 0, 5, what -> x.of(23, what), 99, 5);
        due("a layer that is off", x.of(23, 3), 0);
        due("refused", x.told(0), 10);
    }

    private static void type() {
        StylePapers x = new StylePapers();
        edges("type", 0, 127, c -> x.type(c), 1, 2);
        for (int many = 3; many < 120; many++) {
            x.type(' ');
        }
        due("the 120th", x.type('a'), 120);
        due("the 121st", x.type('a'), FULL);
        due("BAD comes first", x.type(128), BAD);
        due("BAD comes first", x.type(-1), BAD);
        due("bytes", x.told(3), 120);
        due("FULL", x.told(2), 1);
        due("BAD", x.told(0), 4);
        due("all go", x.clear(), 120);
        due("room again", x.type('a'), 1);
        // The byte that was refused is not there: the text is as it was.
        StylePapers y = new StylePapers();
        write(y, "on 1;".repeat(24));
        due("one too many", y.type('x'), FULL);
        due("the orders", y.does(), 24);
    }

    private static void clear() {
        StylePapers x = new StylePapers();
        due("none", x.clear(), 0);
        x.type(0);
        due("one", x.clear(), 1);
        due("none again", x.clear(), 0);
        write(x, "on 1;");
        x.clear();
        write(x, "on");
        due("nothing of the old text is left", x.does(), -12);
        due("layers", x.told(7), 1);
        due("no edit", x.told(8), 0);
    }

    private static void text(String text, int answer) {
        StylePapers x = new StylePapers();
        write(x, text);
        due("'" + text + "'", x.does(), answer);
        due("'" + text + "': an edit, or none", x.told(8), answer > 0 ? 1 : 0);
        due("'" + text + "': the text stays", x.told(3), text.length());
        due("'" + text + "': no refusal", x.told(0) + x.told(1) + x.told(2), 0);
    }

    private static int fault(int place) {
        return -10 - place;
    }

    private static void does() {
        // Each number of each order: the greatest and the one behind it, the least and the one ahead of it.
        for (String word : new String[] {"on ", "off "}) {
            text(word + "0;", 1);
            text(word + "3;", 1);
            text(word + "4;", fault(word.length()));
        }
        text("put 0 0 0 0;", 1);
        text("put 3 5 23 23;", 1);
        text("put 4 5 23 23;", fault(4));
        text("put 3 6 23 23;", fault(6));
        text("put 3 5 24 23;", fault(8));
        text("put 3 5 23 24;", fault(11));
        text("names 0 0 1;", 1);
        text("names 3 5 8;", 1);
        text("names 4 5 8;", fault(6));
        text("names 3 6 8;", fault(8));
        text("names 3 5 9;", fault(10));
        text("names 3 5 0;", fault(10));
        text("voters 0 0;", 1);
        text("voters 23 99;", 1);
        text("voters 24 99;", fault(7));
        text("voters 23 100;", fault(10));
        rectanglesInText();
        figures();
        signs();
        ends();
        lengths();
        faultsUndone();
    }

    private static void rectanglesInText() {
        text("put 0 1 6 6;", 1);
        text("put 0 1 6 7;", 1);
        text("put 0 1 6 10;", 1);
        text("put 0 1 6 5;", fault(10));
        text("put 0 1 6 2;", fault(10));
        text("put 0 1 6 9;", fault(10));
        text("put 0 1 6 3;", fault(10));
        text("put 0 1 20 23;", 1);
        text("put 0 1 23 20;", fault(11));
        // The number is at fault, also where the text ends behind it.
        text("put 0 1 6 5", fault(10));
        text("put 0 1 6 7", fault(11));
    }

    private static void figures() {
        text("on 3;", 1);
        text("on 03;", 1);
        text("on 003;", fault(3));
        text("on 10;", fault(3));
        text("voters 00 00;", 1);
        text("voters 000 0;", fault(7));
        text("voters 0 000;", fault(9));
        text("voters 0 0000000000;", fault(9));
        text("voters 2 4294967297;", fault(9));
        for (String order : new String[] {"on 1", "off 1", "put 1 1 1 1", "names 1 1 1", "voters 1 1"}) {
            for (int i = 0; i < order.length(); i++) {
                if (order.charAt(i) == '1') {
                    String rest = order.substring(i) + ";";
                    text(order.substring(0, i) + "0" + rest, 1);
                    text(order.substring(0, i) + "00" + rest, fault(i));
                    text(order.substring(0, i) + "10" + rest, fault(i));
                }
            }
        }
        // Blanks: needed between letters, between figures, nowhere else.
        text("on1;", 1);
        text("put1 2 3 7;", 1);
        text("put1 23 7;", fault(5));
        text("voters123;", fault(6));
        text("voters12;", fault(8));
        text("voters1 2;", 1);
        text("on 1;off 1;", 2);
        text("on1;off1;", 2);
        text("on   1   ;   off   1   ;   ", 2);
        text("o n 1;", fault(0));
        text("onoff 1;", fault(0));
        text("on 1 1;", fault(5));
        text("on 0 1;", fault(5));
    }

    private static void signs() {
        // On both sides of the blank, the figures, the sign and the letters.
        text("on" + (char) 31 + "1;", fault(2));
        text("on" + (char) 33 + "1;", fault(2));
        text("on" + (char) 32 + "1;", 1);
        text("on /;", fault(3));
        text("on :;", fault(3));
        text("voters 9 9;", 1);
        text("on 1:", fault(4));
        text("on 1<", fault(4));
        text("`n 1;", fault(0));
        text("{n 1;", fault(0));
        text("on 1`", fault(4));
        text("on 1{", fault(4));
        text("on 1a", fault(4));
        text("on 1z", fault(4));
        text("a 1;", fault(0));
        text("z 1;", fault(0));
        text("o 1;", fault(0));
        text("on" + (char) 0 + "1;", fault(2));
        text("on1;" + (char) 127, fault(4));
        text("ON 1;", fault(0));
        text("on 1;ofF 1;", fault(5));
        // Words that are nearly one, words where none can stand, numbers where none can stand.
        String[] nearly = {"o", "onn", "of", "offf", "pu", "puts", "name", "namess", "voter", "voterss"};
        for (String word : nearly) {
            text(word + " 1 1 1 1;", fault(0));
            text("on 1; " + word, fault(6));
        }
        text("an 1;", fault(0));
        text("uff 1;", fault(0));
        text("voters 0 a;", fault(9));
        text("voters 0 ;;", fault(9));
        text("voters a 0;", fault(7));
        text("on off;", fault(3));
        text("on 1 off", fault(5));
        text("5;", fault(0));
        text(";", fault(0));
        text("on 1;;", fault(5));
        text("on;", fault(2));
        text("put 0 0 0;", fault(9));
        text("put 0 0 0 0 0;", fault(12));
        text("names 0 0;", fault(9));
        text("names 0 0 1 1;", fault(12));
        text("voters 0;", fault(8));
        text("voters 0 0 0;", fault(11));
    }

    /** Each order, cut at each place behind its word: it ends too early; within it: a word that is none. */
    private static void ends() {
        text("", fault(0));
        text(" ", fault(1));
        for (String order : new String[] {"on 1", "off 1", "put 1 2 0 11", "names 1 2 8", "voters 11 99"}) {
            int word = order.indexOf(' ');
            for (int cut = word; cut <= order.length(); cut++) {
                text(order.substring(0, cut), fault(cut));
                text(order.substring(0, cut) + "  ", fault(cut + 2));
                text("on 1;" + order.substring(0, cut), fault(5 + cut));
            }
            for (int cut = 1; cut < word; cut++) {
                text(order.substring(0, cut), fault(0));
            }
            text(order + ";", 1);
        }
    }

    private static void lengths() {
        text("on1;".repeat(30), 30);
        text("on1;".repeat(29) + "on1", fault(119));
        text("on1;".repeat(29) + "on1x", fault(119));
        text("on1;".repeat(29) + "on1 ", fault(120));
        text("on1;".repeat(29) + "    ", 29);
        text(" ".repeat(116) + "on1;", 1);
        text(" ".repeat(120), fault(120));
        text(" ".repeat(119) + ";", fault(119));
        text("a".repeat(120), fault(0));
        text("1".repeat(120), fault(0));
        text("on " + "1".repeat(117), fault(3));
    }

    private static void faultsUndone() {
        StylePapers x = new StylePapers();
        write(x, "on 1;put 0 5 0 23;names 0 0 8;voters 0 99;off 4;");
        due("the last order is at fault", x.does(), fault(46));
        due("on is not done", x.told(7), 1);
        due("put is not done", x.of(0, 2), 0);
        due("names is not done", x.lead(0, 0, 2), NONE);
        due("voters is not done", x.of(0, 0), 1);
        due("nothing to undo", x.undo(), NO);
        // Orders are done one behind another.
        write(x, "put 0 5 0 23;put 0 2 5 6;on 3;off 3;voters 1 5;voters 1 6;");
        due("six", x.does(), 6);
        due("over the first", x.of(6, 2), 2);
        due("beside it", x.of(7, 2), 5);
        due("on, off", x.told(7), 1);
        due("the last of both", x.of(1, 0), 6);
        due("the same once more", x.does(), 6);
        due("two edits", x.told(8), 2);
        // Each order does what its call does.
        StylePapers y = new StylePapers();
        write(y, "on 2;on 3;off 0;put 3 4 5 14;names 3 4 7;names 1 2 8;voters 23 45;");
        due("seven", y.does(), 7);
        due("on and off", y.told(7), 12);
        due("put", y.puts(3, 4, 5, 14), 0);
        due("beside put", many(districtsIn(y, 3), 4), 6);
        due("names", y.names(3, 4, 2), 7);
        due("names", y.names(1, 2, 2), 8);
        due("voters", y.voters(23, 1), 45);
    }

    private static void styles() {
        StylePapers x = allApart();
        due("the most", x.styles(), 24);
        x.on(0, 0);
        due("rows", x.styles(), 6);
        x.on(3, 0);
        due("the fewest", x.styles(), 1);
        x.on(0, 1);
        due("columns", x.styles(), 4);
        // By their least BLOCKS, not by their DISTRICTS.
        x.puts(0, 5, 0, 0);
        due("block 0", x.of(0, 1), 0);
        due("block 1", x.of(1, 1), 1);
        due("block 4", x.of(4, 1), 4);
        due("block 23", x.of(23, 1), 3);
        // Keys that differ in the last LAYER alone, and in the order of like DISTRICTS.
        StylePapers y = new StylePapers();
        for (int l = 1; l < 4; l++) {
            y.on(l, 1);
        }
        y.puts(3, 1, 23, 23);
        due("the last layer", y.styles(), 2);
        y.puts(2, 1, 22, 22);
        due("1 0 and 0 1", y.styles(), 3);
        y.puts(2, 5, 21, 21);
        y.puts(1, 1, 20, 20);
        due("0 5 and 1 0", y.styles(), 5);
    }

    private static void style() {
        StylePapers x = allApart();
        edges("style, s's least block", 0, 23, s -> x.style(s, 4), 0, 23);
        edges("style, s's blocks", 0, 23, s -> x.style(s, 0), 1, 1);
        edges("style, s's voters", 0, 23, s -> x.style(s, 1), 1, 1);
        edges("style, s's parts", 0, 23, s -> x.style(s, 2), 1, 1);
        edges("style, s's contests", 0, 23, s -> x.style(s, 3), 2, 2);
        edges("style, what", 0, 4, what -> x.style(23, what), 1, 23);
        due("refused", x.told(0), 12);
        StylePapers y = new StylePapers();
        edges("style, one alone", 0, 0, s -> y.style(s, 0), 24, 24);
        for (int l = 1; l < 4; l++) {
            y.on(l, 1);
        }
        due("the most contests", y.style(0, 3), 4);
        for (int l = 0; l < 4; l++) {
            y.on(l, 0);
        }
        due("no contest", y.style(0, 3), 0);
        // The most parts that there can be: a chessboard.
        StylePapers z = new StylePapers();
        for (int a = 0; a < 24; a++) {
            z.puts(0, (a + a / 4) % 2, a, a);
        }
        due("the most parts", z.style(0, 2), 12);
        due("the most parts", z.style(1, 2), 12);
        due("its blocks", z.style(1, 0), 12);
        // One part through all 24 BLOCKS, one that winds.
        due("all in one", new StylePapers().style(0, 2), 1);
        StylePapers w = new StylePapers();
        w.puts(0, 1, 4, 6);
        w.puts(0, 1, 13, 15);
        due("a winding way", w.style(0, 2), 1);
        due("two bars", w.style(1, 2), 2);
        due("asked again", w.style(0, 2), 1);
        waysBack();
    }

    /** Parts whose least block reaches the others only by going left, or up, or past the ends of rows. */
    private static void waysBack() {
        due("left", partsOf(1, 5, 4), 1);
        due("left, twice", partsOf(2, 6, 5, 4), 1);
        due("up", partsOf(0, 4, 8, 9, 10, 6, 2), 1);
        due("up into the first row", partsOf(2, 6, 10, 9, 8, 4, 0), 1);
        due("up into the first row at its left", partsOf(0, 4, 5, 6, 2), 1);
        due("left to the first column", partsOf(23, 22, 21, 20), 1);
        due("two in the last row", partsOf(20, 21, 23), 2);
        due("two columns", partsOf(3, 7, 0, 4), 2);
        due("end and start of rows", partsOf(3, 4), 2);
        due("end and start of the last rows", partsOf(19, 20), 2);
        due("corners alone", partsOf(5, 10, 15, 0), 4);
    }

    private static int partsOf(int... blocks) {
        StylePapers x = new StylePapers();
        for (int a : blocks) {
            x.puts(0, 1, a, a);
        }
        return x.style(x.of(blocks[0], 1), 2);
    }

    private static void without() {
        StylePapers x = allApart();
        edges("without", 0, 3, l -> x.without(l), 6, 4);
        due("a layer that is off", x.without(1), 24);
        x.on(3, 0);
        due("the last one that is on", x.without(0), 1);
        due("as it was", x.styles(), 4);
        x.on(0, 0);
        due("one of none", x.without(0), 4);
        due("one of none", x.without(3), 6);
        due("a layer of one district", x.without(2), 1);
        due("layers", x.told(7), 0);
        due("refused", x.told(0), 2);
    }

    private static void border() {
        StylePapers x = allApart();
        due("all pairs", x.border(), 38);
        x.on(3, 0);
        due("columns", x.border(), 18);
        x.on(0, 0);
        due("none", x.border(), 0);
        x.on(3, 1);
        due("rows", x.border(), 20);
        // Corners and an edge: ends of rows are not side by side.
        int[][] pairs = {{0, 2}, {3, 2}, {20, 2}, {23, 2}, {1, 3}, {4, 3}, {7, 3}, {22, 3}, {5, 4}, {18, 4}};
        for (int[] pair : pairs) {
            StylePapers y = new StylePapers();
            y.puts(0, 1, pair[0], pair[0]);
            due("block " + pair[0], y.border(), pair[1]);
        }
    }

    private static void beside() {
        StylePapers x = allApart();
        edges("beside, s", 0, 23, s -> x.beside(s, 19), 0, 1);
        edges("beside, o", 0, 23, o -> x.beside(4, o), 1, 0);
        due("alike", x.beside(0, 0), BAD);
        due("alike", x.beside(23, 23), BAD);
        due("next to each other", x.beside(22, 23), 1);
        due("ends of rows", x.beside(3, 4), 0);
        due("refused", x.told(0), 6);
        StylePapers y = new StylePapers();
        due("one style has no other", y.beside(0, 1), BAD);
        y.puts(0, 1, 23, 23);
        due("two", y.beside(0, 1), 2);
        due("two", y.beside(1, 0), 2);
        due("alike", y.beside(1, 1), BAD);
        due("no third", y.beside(0, 2), BAD);
        for (int a = 0; a < 24; a++) {
            y.puts(0, (a + a / 4) % 2, a, a);
        }
        due("all pairs", y.beside(0, 1), 38);
    }

    private static void unlike() {
        StylePapers x = allApart();
        edges("unlike, s", 0, 23, s -> x.unlike(s, 0), 0, 2);
        edges("unlike, o", 0, 23, o -> x.unlike(23, o), 2, 0);
        due("alike is 0", x.unlike(7, 7), 0);
        due("of one column", x.unlike(0, 4), 1);
        due("refused", x.told(0), 4);
        StylePapers y = new StylePapers();
        for (int l = 0; l < 4; l++) {
            y.puts(l, 5, 23, 23);
            y.on(l, 1);
        }
        due("all four", y.unlike(0, 1), 4);
        y.on(3, 0);
        due("layers on alone", y.unlike(0, 1), 3);
        y.on(0, 0);
        due("layers on alone", y.unlike(1, 0), 2);
        due("no third", y.unlike(0, 2), BAD);
    }

    private static void odd() {
        StylePapers x = allApart();
        edges("odd", 0, 1, what -> x.odd(what), 0, 0);
        x.voters(23, 0);
        due("the last", x.odd(0), 23);
        x.voters(22, 0);
        due("of like ones the least", x.odd(0), 22);
        x.voters(1, 0);
        due("the second", x.odd(0), 1);
        x.voters(0, 0);
        due("the first", x.odd(0), 0);
        due("refused", x.told(0), 2);
        StylePapers w = new StylePapers();
        w.puts(0, 1, 1, 23);
        due("fewest blocks, fewest voters", w.odd(0), 0);
        w.voters(0, 24);
        due("one more than the other", w.odd(0), 1);
        StylePapers y = new StylePapers();
        y.puts(0, 1, 20, 20);
        y.puts(0, 1, 23, 23);
        due("most parts: the last", y.odd(1), 1);
        y.puts(0, 2, 16, 19);
        y.puts(0, 2, 21, 22);
        // Style 0: rows 0 to 3; style 1: row 4 with 21 and 22, one part; style 2: 20 and 23, two parts.
        due("most parts: the last", y.odd(1), 2);
        y.puts(0, 1, 0, 23);
        due("one style", y.odd(0), 0);
        due("one style", y.odd(1), 0);
    }

    private static void paper() {
        StylePapers x = new StylePapers();
        edges("paper, columns", 1, 3, v -> x.paper(0, v), 2, 1);
        edges("paper, depth", 4, 30, v -> x.paper(1, v), 12, 4);
        edges("paper, rule", 0, 3, v -> x.paper(2, v), 0, 0);
        edges("paper, what", 0, 2, what -> x.paper(what, 1), 3, 3);
        due("columns", x.told(4), 1);
        due("depth", x.told(5), 30);
        due("rule", x.told(6), 1);
        due("a depth, not so many columns", x.paper(0, 4), BAD);
        due("columns, not so great a depth", x.paper(1, 3), BAD);
        due("refused", x.told(0), 10);
        due("no edits", x.told(8), 0);
    }

    private static void faces() {
        StylePapers x = allApart();
        edges("faces", 0, 23, s -> x.faces(s), 1, 1);
        x.names(3, 5, 8);
        x.paper(1, 9);
        due("the last row is bare", x.faces(20), 0);
        due("the row above is not", x.faces(19), 1);
        // HEIGHT and DEPTH alike: it fits; one less: it does not. At both ends of NAMES.
        due("height 10 of 10", withHeights(1, 10, 10).faces(0), 1);
        due("height 10 of 9", withHeights(3, 9, 10).faces(0), 0);
        due("height 4 of 4", withHeights(1, 4, 4).faces(0), 1);
        due("height 5 of 4", withHeights(3, 4, 5).faces(0), 0);
        due("height 3 of 4", withHeights(1, 4, 3).faces(0), 1);
        due("bare by the last", withHeights(3, 9, 3, 3, 3, 10).faces(0), 0);
        // Room that is just enough, and one too little.
        due("5 and 5 of 10", withHeights(1, 10, 5, 5).faces(0), 1);
        due("5 and 6 of 10", withHeights(1, 10, 5, 6).faces(0), 2);
        due("10, 10, 10 of 30", withHeights(1, 30, 10, 10, 10).faces(0), 1);
        due("10, 10, 10, 10 of 30", withHeights(1, 30, 10, 10, 10, 10).faces(0), 2);
        due("10, 10, 10, 10 of 30, two columns", withHeights(2, 30, 10, 10, 10, 10).faces(0), 1);
        for (int rule = 0; rule < 4; rule++) {
            int[] sheets = {4, 2, 2};
            for (int columns = 1; columns <= 3; columns++) {
                StylePapers y = withHeights(columns, 10, 10, 10, 10, 10);
                y.paper(2, rule);
                due("the most sheets, rule " + rule, y.faces(0), sheets[columns - 1]);
            }
        }
        // One SHEET at least; what is off makes none bare.
        StylePapers z = withHeights(1, 9, 10);
        z.on(0, 0);
        due("no contest", z.faces(0), 1);
        due("no second style", z.faces(1), BAD);
    }

    private static void contest() {
        StylePapers x = allApart();
        edges("contest, s", 0, 23, s -> x.contest(s, 1, 1), 0, 5);
        edges("contest, what", 0, 3, what -> x.contest(23, 1, what), 3, 0);
        due("k -1", x.contest(0, -1, 0), BAD);
        due("k the least", x.contest(0, Integer.MIN_VALUE, 0), BAD);
        due("k 0", x.contest(0, 0, 0), 0);
        due("k 1", x.contest(0, 1, 0), 3);
        for (int what = 0; what < 4; what++) {
            due("k 2", x.contest(0, 2, what), NONE);
            due("k the greatest", x.contest(0, Integer.MAX_VALUE, what), NONE);
        }
        due("BAD comes first", x.contest(0, 2, 4), BAD);
        due("refused", x.told(0), 7);
        x.on(0, 0);
        x.on(3, 0);
        due("no contest", x.contest(0, 0, 0), NONE);
        due("no contest", x.contest(0, -1, 0), BAD);
        StylePapers y = withHeights(1, 10, 3, 10, 3, 10);
        due("k 3", y.contest(0, 3, 0), 3);
        due("k 4", y.contest(0, 4, 0), NONE);
        due("the least height", y.contest(0, 2, 2), 3);
        due("the greatest height", y.contest(0, 3, 2), 10);
        due("the last column", y.contest(0, 3, 3), 3);
        y.paper(1, 9);
        for (int k = 0; k < 4; k++) {
            due("bare, layer", y.contest(0, k, 0), k);
            due("bare, district", y.contest(0, k, 1), 0);
            due("bare, height", y.contest(0, k, 2), k % 2 == 0 ? 3 : 10);
            due("bare, column", y.contest(0, k, 3), NONE);
        }
        due("bare, not so many", y.contest(0, 4, 3), NONE);
        rules();
    }

    private static void laid(int rule, int columns, int depth, int[] heights, int... want) {
        StylePapers x = withHeights(columns, depth, heights);
        x.paper(2, rule);
        for (int k = 0; k < heights.length; k++) {
            due("rule " + rule + " of " + Arrays.toString(heights) + ", contest " + k, x.contest(0, k, 3), want[k]);
        }
    }

    /** For each rule: room that is just enough, one too little, and which of two is taken. */
    private static void rules() {
        int[] lastFits = {5, 8, 4};
        int[] lastDoesNot = {5, 8, 5};
        laid(0, 2, 12, lastFits, 0, 1, 1);
        laid(0, 2, 12, lastDoesNot, 0, 1, 2);
        laid(1, 2, 12, lastDoesNot, 0, 1, 0);
        // NEXT: the last one first, though the one behind it has room; never one further behind, none on a sheet left.
        laid(0, 3, 10, new int[] {4, 6, 4, 6}, 0, 0, 1, 1);
        laid(0, 3, 10, new int[] {10, 10, 10, 3}, 0, 1, 2, 3);
        laid(0, 3, 10, new int[] {4, 10, 10, 6}, 0, 1, 2, 3);
        laid(0, 1, 10, new int[] {4, 10, 6, 4}, 0, 1, 2, 2);
        laid(0, 2, 10, new int[] {10, 10, 8, 8}, 0, 1, 2, 3);
        // FIRST: goes back to any sheet with room, just enough, or not.
        laid(1, 1, 10, new int[] {4, 10, 6, 3}, 0, 1, 0, 2);
        laid(1, 1, 10, new int[] {4, 10, 7, 3}, 0, 1, 2, 0);
        laid(1, 2, 10, new int[] {7, 7, 7, 3}, 0, 1, 2, 0);
        // TIGHT: the least room that is enough; of like ones the first, on another sheet, too.
        laid(2, 2, 12, new int[] {6, 7, 5, 6}, 0, 1, 1, 0);
        laid(2, 2, 12, new int[] {7, 7, 5, 5}, 0, 1, 0, 1);
        laid(2, 2, 12, new int[] {7, 8, 5, 4}, 0, 1, 0, 1);
        laid(2, 1, 12, new int[] {8, 9, 3, 4}, 0, 1, 1, 0);
        laid(2, 1, 12, new int[] {8, 9, 4, 4}, 0, 1, 0, 2);
        // LOOSE: the most room; of like ones the first.
        laid(3, 3, 12, new int[] {3, 3, 3, 3}, 0, 1, 2, 0);
        laid(3, 2, 12, new int[] {3, 4, 5, 5}, 0, 1, 0, 1);
        laid(3, 2, 12, new int[] {9, 9, 3, 3}, 0, 1, 0, 1);
        laid(3, 2, 12, new int[] {9, 9, 4, 8}, 0, 1, 2, 3);
        laid(3, 1, 12, new int[] {9, 8, 4, 3}, 0, 1, 1, 0);
    }

    private static void room() {
        StylePapers x = allApart();
        edges("room, s", 0, 23, s -> x.room(s, 0), 16, 16);
        edges("room of all, s", 0, 23, s -> x.room(s, 1), 24, 24);
        edges("room, what", 0, 1, what -> x.room(23, what), 16, 24);
        due("refused", x.told(0), 6);
        // No contest: all of one sheet, at the ends of COLUMNS and DEPTH.
        int[][] sizes = {{1, 4}, {1, 30}, {3, 4}, {3, 30}};
        for (int[] size : sizes) {
            StylePapers y = withHeights(size[0], size[1]);
            y.on(0, 0);
            due("an empty sheet", y.room(0, 0), size[0] * size[1]);
        }
        due("none left", withHeights(1, 10, 10).room(0, 0), 0);
        due("none left on four", withHeights(1, 10, 10, 10, 10, 10).room(0, 0), 0);
        due("one left", withHeights(1, 10, 9).room(0, 0), 1);
        due("bare", withHeights(1, 9, 10).room(0, 0), NONE);
        due("bare, of all", withHeights(1, 9, 10).room(0, 1), 0);
        StylePapers z = withHeights(1, 10, 10, 10, 10, 10);
        for (int a = 0; a < 24; a++) {
            z.voters(a, 99);
        }
        due("the most sheets of all", z.room(0, 1), 24 * 99 * 4);
        due("no second style", z.room(1, 1), BAD);
        // One of two styles bare: its voters count 0.
        StylePapers w = new StylePapers();
        w.puts(0, 1, 23, 23);
        w.names(0, 1, 8);
        w.voters(23, 50);
        due("both", w.room(0, 1), 23 + 50);
        w.paper(1, 9);
        due("one of them", w.room(1, 1), 23);
        due("the bare one", w.room(1, 0), NONE);
        due("the other", w.room(0, 0), 14);
    }

    private static void rule() {
        StylePapers x = new StylePapers();
        edges("rule", 0, 1, what -> x.rule(what), 0, 24);
        x.names(0, 0, 8);
        x.paper(1, 10);
        due("just deep enough", x.rule(1), 24);
        x.paper(1, 9);
        due("bare", x.rule(0), NO);
        due("bare", x.rule(1), NO);
        due("BAD comes first", x.rule(2), BAD);
        due("BAD comes first", x.rule(-1), BAD);
        due("NO", x.told(1), 2);
        due("BAD", x.told(0), 4);
        StylePapers z = allApart();
        edges("rule, the most styles", 0, 1, what -> z.rule(what), 0, 24);
        z.names(3, 5, 8);
        z.paper(1, 9);
        due("the last four of the most styles are bare", z.rule(0), NO);
        // A bare style without a voter is one, too; a contest that is off or of no block makes none.
        StylePapers y = new StylePapers();
        y.puts(0, 1, 23, 23);
        y.names(0, 1, 8);
        y.voters(23, 0);
        y.paper(1, 9);
        due("bare, without voters", y.rule(0), NO);
        y.puts(0, 0, 23, 23);
        due("no block", y.rule(0), 0);
        y.puts(1, 1, 23, 23);
        y.names(1, 1, 8);
        due("off", y.rule(1), 23);
        y.on(1, 1);
        due("on", y.rule(1), NO);
        fewest();
    }

    /** Each rule once as the best, the least of like ones, whatever the rule that stands. */
    private static void fewest() {
        int[][] heights = {{4, 4, 4, 4}, {5, 6, 5, 4}, {6, 7, 5, 6}, {3, 3, 9, 9}};
        int[][] sizes = {{1, 30}, {1, 10}, {2, 12}, {2, 12}};
        int[] sheets = {1, 2, 1, 1};
        for (int best = 0; best < 4; best++) {
            for (int stands = 0; stands < 4; stands++) {
                StylePapers x = withHeights(sizes[best][0], sizes[best][1], heights[best]);
                x.paper(2, stands);
                due("which, best " + best, x.rule(0), best);
                due("how many, best " + best, x.rule(1), 24 * sheets[best]);
                due("the rule stays", x.told(6), stands);
            }
        }
        StylePapers y = withHeights(2, 12, 3, 3, 9, 9);
        due("LOOSE", y.rule(0), 3);
        for (int a = 0; a < 24; a++) {
            y.voters(a, 0);
        }
        due("no voters: all alike", y.rule(0), 0);
        due("no voters: none", y.rule(1), 0);
    }

    private static void leads() {
        StylePapers x = new StylePapers();
        x.names(0, 0, 8);
        edges("leads, a", 0, 23, a -> x.leads(a, 0), 0, 7);
        due("ahead of the turn", x.leads(7, 0), 7);
        due("behind the turn", x.leads(8, 0), 0);
        due("behind the turn", x.leads(16, 0), 0);
        edges("leads, l", 0, 3, l -> x.leads(23, l), 7, NONE);
        due("BAD comes ahead of NONE", x.leads(24, 3), BAD);
        x.on(3, 1);
        due("on", x.leads(23, 3), 1);
        x.on(0, 0);
        due("off", x.leads(23, 0), NONE);
        x.on(0, 1);
        x.names(0, 0, 7);
        due("by 7", x.leads(7, 0), 0);
        due("by 7", x.leads(23, 0), 2);
        x.names(0, 0, 1);
        due("one name", x.leads(0, 0), 0);
        due("one name", x.leads(23, 0), 0);
        due("refused", x.told(0), 5);
        // Blocks without voters are counted; those of other districts are not.
        StylePapers y = new StylePapers();
        y.voters(0, 0);
        due("behind a block without voters", y.leads(1, 0), 1);
        y.puts(0, 5, 0, 0);
        due("behind another district's", y.leads(1, 0), 0);
    }

    private static void lead() {
        StylePapers x = new StylePapers();
        x.names(0, 0, 8);
        x.names(3, 5, 8);
        x.puts(3, 5, 0, 7);
        edges("lead, l", 0, 3, l -> x.lead(l, 5, 0), 0, 1);
        edges("lead, d", 0, 5, d -> x.lead(3, d, 0), 8, 1);
        edges("lead, n", 0, 7, n -> x.lead(0, 0, n), 3, 3);
        x.names(0, 0, 7);
        due("n 6 of 7", x.lead(0, 0, 6), 3);
        due("n 7 of 7", x.lead(0, 0, 7), NONE);
        due("n 8 of 7", x.lead(0, 0, 8), BAD);
        x.names(0, 0, 1);
        due("n 0 of 1", x.lead(0, 0, 0), 24);
        due("n 1 of 1", x.lead(0, 0, 1), NONE);
        due("a layer that is off", x.lead(3, 5, 7), 1);
        due("refused", x.told(0), 7);
        for (int a = 0; a < 24; a++) {
            x.voters(a, 99);
        }
        due("the most", x.lead(0, 0, 0), 24 * 99);
    }

    private static void fair() {
        StylePapers x = new StylePapers();
        x.names(0, 0, 8);
        x.voters(0, 99);
        edges("fair, l", 0, 3, l -> x.fair(l, 0, 1), 98, 98);
        edges("fair, d", 0, 5, d -> x.fair(0, d, 1), 98, 0);
        edges("fair, what", 0, 1, what -> x.fair(0, 0, what), 0, 98);
        due("refused", x.told(0), 6);
        x.voters(1, 0);
        x.voters(9, 0);
        x.voters(17, 0);
        due("24 by 8, whoever votes", x.fair(0, 0, 0), 0);
        due("101 and 0", x.fair(0, 0, 1), 101);
        x.names(0, 0, 7);
        due("24 by 7", x.fair(0, 0, 0), 1);
        x.names(0, 0, 1);
        due("one name", x.fair(0, 0, 1), 0);
        x.names(3, 0, 5);
        due("24 by 5, a layer that is off", x.fair(3, 0, 0), 1);
        due("no block", x.fair(3, 5, 0), 0);
        // Of what 0 never more than 1, however many BLOCKS and NAMES.
        for (int blocks = 1; blocks <= 6; blocks++) {
            StylePapers y = new StylePapers();
            y.puts(2, 4, 0, 4 * (blocks - 1));
            for (int n = 1; n <= 8; n++) {
                y.names(2, 4, n);
                due(blocks + " by " + n, y.fair(2, 4, 0), blocks % n == 0 ? 0 : 1);
            }
        }
    }

    private static void place() {
        StylePapers x = new StylePapers();
        x.names(0, 0, 8);
        edges("place, a", 0, 23, a -> x.place(a, 0, 7), 7, 0);
        edges("place, l", 0, 3, l -> x.place(1, l, 0), 7, NONE);
        edges("place, n", 0, 7, n -> x.place(1, 0, n), 7, 6);
        x.names(0, 0, 7);
        due("n 6 of 7", x.place(0, 0, 6), 6);
        due("n 7 of 7", x.place(0, 0, 7), NONE);
        due("n 8 of 7", x.place(0, 0, 8), BAD);
        x.names(0, 0, 1);
        due("n 0 of 1", x.place(23, 0, 0), 0);
        due("n 1 of 1", x.place(23, 0, 1), NONE);
        due("BAD comes ahead of NONE", x.place(0, 1, 8), BAD);
        due("BAD comes ahead of NONE", x.place(24, 1, 7), BAD);
        x.on(0, 0);
        due("off", x.place(23, 0, 0), NONE);
        due("refused", x.told(0), 9);
        // Each name has a place of its own in each block, and the one that leads is at the first.
        StylePapers y = new StylePapers();
        y.names(0, 0, 5);
        for (int a = 0; a < 24; a++) {
            for (int n = 0; n < 5; n++) {
                due("block " + a + ", name " + n, y.place(a, 0, n), Math.floorMod(n - a, 5));
            }
            due("block " + a, y.place(a, 0, y.leads(a, 0)), 0);
        }
    }

    private static void told() {
        StylePapers x = new StylePapers();
        edges("told", 0, 8, what -> x.told(what), 1, 0);
        due("refusals of its own", x.told(0), 2);
        x.paper(0, 1);
        x.paper(1, 4);
        x.paper(2, 3);
        due("columns", x.told(4), 1);
        due("depth", x.told(5), 4);
        due("rule", x.told(6), 3);
        x.paper(0, 3);
        x.paper(1, 30);
        x.paper(2, 0);
        due("columns", x.told(4), 3);
        due("depth", x.told(5), 30);
        due("rule", x.told(6), 0);
        // 512 calls, all refused but the last.
        StylePapers y = new StylePapers();
        for (int i = 0; i < 511; i++) {
            y.undo();
        }
        due("how often", y.told(1), 511);
    }

    private static void digest() {
        // Worked out from the row of numbers itself; each v once through h = 31 h + v, with Java's long.
        due("new", new StylePapers().digest(), hashed(newRow(1, 1, 2)));
        StylePapers x = new StylePapers();
        x.voters(23, 99);
        x.undo();
        x.undo();
        long[] row = newRow(1, 1, 2);
        row[1] = 1;
        due("NO counts", x.digest(), hashed(row));
        StylePapers y = new StylePapers();
        y.voters(0, 99);
        y.puts(3, 5, 0, 0);
        y.names(0, 0, 8);
        row = newRow(1, 1, 2);
        row[8] = 3;
        row[9] = 99;
        row[9 + 4] = 5;
        row[9 + 24 * 5] = 8;
        due("the first block, its last layer, the first contest", y.digest(), hashed(row));
        StylePapers z = new StylePapers();
        z.voters(23, 0);
        z.puts(0, 5, 23, 23);
        z.names(3, 5, 1);
        z.names(0, 5, 8);
        z.paper(1, 9);
        row = Arrays.copyOf(newRow(1, 1, 2), 9 + 24 * 5 + 24 + 2 + 2);
        row[5] = 9;
        row[8] = 4;
        row[9 + 23 * 5] = 0;
        row[9 + 23 * 5 + 1] = 5;
        row[9 + 24 * 5 + 5] = 8;
        row[9 + 24 * 5 + 23] = 1;
        row[9 + 24 * 5 + 24] = 2;
        row[9 + 24 * 5 + 25] = 2;
        row[9 + 24 * 5 + 27] = 0;
        due("the last block, two styles, one of them bare", z.digest(), hashed(row));
    }

    /** told(0) to told(8); VOTERS and DISTRICTS of each BLOCK; NAMES; styles, border, one style's faces. */
    private static long[] newRow(int people, int sheets, int names) {
        long[] row = new long[9 + 24 * 5 + 24 + 3];
        row[4] = 2;
        row[5] = 12;
        row[7] = 1;
        for (int a = 0; a < 24; a++) {
            row[9 + a * 5] = people;
        }
        Arrays.fill(row, 9 + 24 * 5, 9 + 24 * 5 + 24, names);
        row[9 + 24 * 5 + 24] = 1;
        row[9 + 24 * 5 + 26] = sheets;
        return row;
    }

    private static long hashed(long[] row) {
        long h = 2027;
        for (long v : row) {
            h = 31 * h + v;
        }
        return h;
    }
}

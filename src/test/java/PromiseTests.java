/** Worked cases, promise by promise; each answer was worked out from the document by hand. */
public final class PromiseTests {
    private static final int NONE = StylePapers.NONE;
    private static final int BAD = StylePapers.BAD;
    private static final int NO = StylePapers.NO;
    private static final int FULL = StylePapers.FULL;
    private static int wrong = 0;
    private static int promise = 0;

    private static void due(String call, long got, long want) {
        if (got != want) {
            wrong++;
            System.out.println("promise " + promise + ": " + call + " answered " + got + ", due is " + want);
        }
    }

    public static void main(String[] args) {
        promise = 1;
        aNewObject();
        promise = 2;
        on();
        promise = 3;
        puts();
        promise = 4;
        names();
        promise = 5;
        voters();
        promise = 6;
        draw();
        promise = 7;
        follows();
        promise = 8;
        undo();
        promise = 9;
        of();
        promise = 10;
        type();
        promise = 11;
        clear();
        promise = 12;
        does();
        faults();
        promise = 13;
        styles();
        promise = 14;
        style();
        promise = 15;
        without();
        promise = 16;
        border();
        promise = 17;
        beside();
        promise = 18;
        unlike();
        promise = 19;
        odd();
        promise = 20;
        paper();
        promise = 21;
        faces();
        promise = 22;
        contest();
        rulesOfLaying();
        promise = 23;
        room();
        promise = 24;
        rule();
        promise = 25;
        leads();
        promise = 26;
        lead();
        promise = 27;
        fair();
        promise = 28;
        place();
        promise = 29;
        told();
        promise = 30;
        digest();
        System.out.println(wrong == 0 ? "all promises hold" : wrong + " answers are not as due");
        if (wrong != 0) {
            System.exit(1);
        }
    }

    private static int say(StylePapers x, String text) {
        x.clear();
        for (int i = 0; i < text.length(); i++) {
            x.type(text.charAt(i));
        }
        return x.does();
    }

    /** Calls that must all be refused as BAD, and must change nothing but that count. */
    private static void allBad(StylePapers x, long before, int... answers) {
        for (int i = 0; i < answers.length; i++) {
            due("wrong input " + i, answers[i], BAD);
        }
        due("told(0) behind wrong inputs", x.told(0), before + answers.length);
    }

    private static void aNewObject() {
        StylePapers x = new StylePapers();
        for (int a = 0; a < 24; a++) {
            due("voters of " + a, x.of(a, 0), 1);
            for (int what = 1; what < 6; what++) {
                due("of(" + a + ", " + what + ")", x.of(a, what), 0);
            }
        }
        int[] counters = {0, 0, 0, 0, 2, 12, 0, 1, 0};
        for (int i = 0; i < 9; i++) {
            due("told(" + i + ")", x.told(i), counters[i]);
        }
        for (int l = 0; l < 4; l++) {
            for (int d = 0; d < 6; d++) {
                due("a second name", x.lead(l, d, 1), d == 0 ? 12 : 0);
                due("no third name", x.lead(l, d, 2), NONE);
            }
        }
        due("NONE", NONE, -1);
        due("BAD", BAD, -2);
        due("NO", NO, -3);
        due("FULL", FULL, -4);
    }

    private static void on() {
        StylePapers x = new StylePapers();
        due("on(0, 1)", x.on(0, 1), 0);
        due("an edit without a change is one too", x.told(8), 1);
        due("on(3, 1)", x.on(3, 1), 1);
        due("layers on", x.told(7), 9);
        due("on(3, 1) again", x.on(3, 1), 0);
        due("on(0, 0)", x.on(0, 0), 1);
        due("layers on", x.told(7), 8);
        due("on(0, 0) again", x.on(0, 0), 0);
        allBad(x, 0, x.on(-1, 0), x.on(4, 0), x.on(0, -1), x.on(0, 2), x.on(Integer.MIN_VALUE, 1));
        due("edits", x.told(8), 5);
        due("layers on", x.told(7), 8);
    }

    private static void puts() {
        StylePapers x = new StylePapers();
        due("puts(0, 1, 5, 10)", x.puts(0, 1, 5, 10), 4);
        due("inside", x.of(9, 2), 1);
        due("left of it", x.of(8, 2), 0);
        due("right of it", x.of(7, 2), 0);
        due("another layer", x.of(9, 3), 0);
        due("over it", x.puts(0, 1, 0, 23), 20);
        due("again", x.puts(0, 1, 0, 23), 0);
        due("one block", x.puts(3, 5, 23, 23), 1);
        due("one column", x.puts(2, 4, 3, 23), 6);
        allBad(x, 0, x.puts(-1, 0, 0, 0), x.puts(4, 0, 0, 0), x.puts(0, -1, 0, 0), x.puts(0, 6, 0, 0),
            x.puts(0, 0, -1, 0), x.puts(0, 0, 0, 24), x.puts(0, 0, 24, 24), x.puts(0, 0, 4, 3),
            x.puts(0, 0, 1, 4), x.puts(0, 0, 8, 4), x.puts(0, 0, 1, 0), x.puts(0, 0, 0, -1));
        due("edits", x.told(8), 5);
    }

    private static void names() {
        StylePapers x = new StylePapers();
        due("names(0, 0, 8)", x.names(0, 0, 8), 2);
        due("names(0, 0, 1)", x.names(0, 0, 1), 8);
        due("height", x.contest(0, 0, 2), 3);
        due("names(3, 5, 7)", x.names(3, 5, 7), 2);
        due("names(3, 5, 7) again", x.names(3, 5, 7), 7);
        due("another contest", x.names(3, 4, 2), 2);
        allBad(x, 0, x.names(-1, 0, 1), x.names(4, 0, 1), x.names(0, -1, 1), x.names(0, 6, 1),
            x.names(0, 0, 0), x.names(0, 0, 9), x.names(0, 0, -1));
        due("edits", x.told(8), 5);
    }

    private static void voters() {
        StylePapers x = new StylePapers();
        due("voters(0, 99)", x.voters(0, 99), 1);
        due("voters(0, 0)", x.voters(0, 0), 99);
        due("voters(23, 5)", x.voters(23, 5), 1);
        due("voters(23, 5) again", x.voters(23, 5), 5);
        due("of all", x.style(0, 1), 22 + 5);
        allBad(x, 0, x.voters(-1, 1), x.voters(24, 1), x.voters(0, -1), x.voters(0, 100));
        due("edits", x.told(8), 4);
    }

    private static void draw() {
        StylePapers x = new StylePapers();
        long seed = 999999;
        long all = 0;
        int[] people = new int[24];
        int[] districts = new int[24];
        for (int a = 0; a < 24; a++) {
            seed = Math.floorMod(seed * 1103515245L + 12345L, 1L << 31);
            districts[a] = (int) ((seed >> 16) % 6);
            people[a] = (int) ((seed >> 10) % 30);
            all += people[a];
        }
        due("draw(2, 999999, 6)", x.draw(2, 999999, 6), all);
        for (int a = 0; a < 24; a++) {
            due("voters", x.of(a, 0), people[a]);
            due("district", x.of(a, 4), districts[a]);
            due("another layer", x.of(a, 2), 0);
        }
        // From 0: X is 12345, so DISTRICT 0 and VOTERS 12.
        x.draw(1, 0, 6);
        due("the first block's voters", x.of(0, 0), 12);
        due("the first block's district", x.of(0, 3), 0);
        x.draw(2, 5, 1);
        due("one district alone", x.puts(2, 0, 0, 23), 0);
        allBad(x, 0, x.draw(-1, 0, 1), x.draw(4, 0, 1), x.draw(0, -1, 1), x.draw(0, 1000000, 1),
            x.draw(0, 0, 0), x.draw(0, 0, 7));
        due("edits", x.told(8), 4);
    }

    private static void follows() {
        StylePapers x = new StylePapers();
        x.puts(0, 3, 0, 1);
        x.puts(0, 1, 4, 4);
        due("another layer's", x.follows(1, 0, 0), 3);
        due("as there", x.of(4, 3), 1);
        due("a layer's own", x.follows(1, 0, 1), 0);
        // Row 0 is 3 3 0 0, row 1 is 1 0 0 0: round about 0 0 3 3 and 0 0 0 1.
        due("columns", x.follows(1, 1, 3), 4 + 2);
        due("corner", x.of(3, 3), 3);
        due("row 1", x.of(7, 3), 1);
        due("corner left", x.of(0, 3), 0);
        // Rows 0 and 1 go to 5 and 4.
        due("rows", x.follows(1, 2, 0), 6);
        due("below", x.of(23, 3), 3);
        due("row 4", x.of(19, 3), 1);
        due("above", x.of(3, 3), 0);
        x.puts(0, 2, 22, 23);
        due("the greater", x.follows(0, 3, 1), 3);
        due("of like rank", x.of(23, 2), 3);
        due("own stays", x.of(0, 2), 3);
        due("the other layer stays", x.of(0, 3), 0);
        due("with itself", x.follows(0, 3, 0), 0);
        allBad(x, 0, x.follows(-1, 0, 0), x.follows(4, 0, 0), x.follows(0, -1, 0), x.follows(0, 4, 0),
            x.follows(0, 0, -1), x.follows(0, 0, 4), x.follows(0, 1, 4), x.follows(0, 2, -1));
        due("edits", x.told(8), 8);
    }

    private static void undo() {
        StylePapers x = new StylePapers();
        due("none", x.undo(), NO);
        due("counted", x.told(1), 1);
        x.on(1, 1);
        x.puts(1, 2, 0, 0);
        x.names(1, 2, 5);
        x.voters(0, 9);
        x.draw(2, 4, 6);
        x.follows(3, 0, 2);
        say(x, "on 2;off 0;voters 1 7;");
        due("the orders", x.undo(), 6);
        due("layers", x.told(7), 3);
        due("the map", x.undo(), 5);
        due("as ahead", x.follows(3, 0, 3), 0);
        due("that edit", x.undo(), 5);
        due("the draw", x.undo(), 4);
        due("voters", x.of(0, 0), 9);
        due("voters undone", x.undo(), 3);
        due("voters as ahead", x.of(0, 0), 1);
        due("names undone", x.undo(), 2);
        due("names as ahead", x.lead(1, 2, 2), NONE);
        due("district undone", x.undo(), 1);
        due("district as ahead", x.of(0, 3), 0);
        due("layer undone", x.undo(), 0);
        due("layer off", x.told(7), 1);
        due("none", x.undo(), NO);
        for (int n = 1; n <= 10; n++) {
            x.voters(3, 10 + n);
        }
        due("eight at most", x.told(8), 8);
        for (int left = 7; left >= 0; left--) {
            due("undo", x.undo(), left);
            due("voters", x.of(3, 0), 10 + left + 2);
        }
        due("older ones are lost", x.undo(), NO);
        x.paper(0, 3);
        x.voters(0, 2);
        x.paper(1, 20);
        x.undo();
        due("papers are no edit: columns", x.told(4), 3);
        due("papers are no edit: depth", x.told(5), 20);
        x.names(3, 5, 8);
        x.undo();
        due("the last contest's names", x.names(3, 5, 2), 2);
    }

    private static void of() {
        StylePapers x = new StylePapers();
        x.voters(23, 17);
        x.puts(0, 5, 23, 23);
        x.puts(3, 4, 23, 23);
        due("voters", x.of(23, 0), 17);
        due("style", x.of(23, 1), 1);
        due("layer 0", x.of(23, 2), 5);
        due("layer 1", x.of(23, 3), 0);
        due("layer 3", x.of(23, 5), 4);
        allBad(x, 0, x.of(-1, 0), x.of(24, 0), x.of(0, -1), x.of(0, 6));
    }

    private static void type() {
        StylePapers x = new StylePapers();
        due("a byte", x.type(0), 1);
        due("a byte", x.type(127), 2);
        allBad(x, 0, x.type(-1), x.type(128));
        for (int i = 3; i <= 120; i++) {
            due("byte " + i, x.type(';'), i);
        }
        due("one more", x.type(';'), FULL);
        due("counted", x.told(2), 1);
        due("BAD comes first", x.type(128), BAD);
        due("still", x.told(3), 120);
        due("no edit", x.told(8), 0);
    }

    private static void clear() {
        StylePapers x = new StylePapers();
        due("empty", x.clear(), 0);
        x.type('o');
        x.type('n');
        due("two", x.clear(), 2);
        due("none", x.told(3), 0);
        due("and empty", x.does(), -10);
    }

    private static void does() {
        StylePapers x = new StylePapers();
        due("one order", say(x, "on 1;"), 1);
        due("layers", x.told(7), 3);
        due("the text stays", x.told(3), 5);
        due("again", x.does(), 1);
        due("two edits", x.told(8), 2);
        due("all kinds", say(x, "off0;put1 2 05 10;names 1 2 8;voters 23 99; on 02 ; "), 5);
        due("one edit for all", x.told(8), 3);
        due("layers", x.told(7), 6);
        due("inside", x.of(9, 3), 2);
        due("outside", x.of(8, 3), 0);
        due("names", x.lead(1, 2, 7), 0);
        due("voters", x.of(23, 0), 99);
        due("in their order", say(x, "voters 0 5;voters 0 6;"), 2);
        due("the last one stays", x.of(0, 0), 6);
        due("undo", x.undo(), 3);
        due("both are undone", x.of(0, 0), 1);
        due("thirty orders", say(x, "on3;".repeat(30)), 30);
        due("the last of a long text is at fault", say(x, "on3;".repeat(29) + "on3 "), -10 - 120);
        due("blanks first", say(x, "   on 3;"), 1);
        due("the least numbers", say(x, "on 0;off 0;put 0 0 0 0;names 0 0 1;voters 0 0;"), 5);
        due("the greatest numbers", say(x, "on 3;off 3;put 3 5 23 23;names 3 5 8;voters 23 99;"), 5);
        due("put", x.of(23, 5), 5);
    }

    private static void faultAt(String text, int place) {
        StylePapers x = new StylePapers();
        int answer = say(x, text);
        due("'" + text + "'", answer, -10 - place);
        due("'" + text + "': nothing is done", x.told(7), 1);
        due("'" + text + "': no edit", x.told(8), 0);
        due("'" + text + "': BAD counts not", x.told(0), 0);
        due("'" + text + "': NO counts not", x.told(1), 0);
        due("'" + text + "': voters", x.of(0, 0), 1);
    }

    private static void faults() {
        faultAt("", 0);
        faultAt("   ", 3);
        faultAt("on", 2);
        faultAt("on ", 3);
        faultAt("on 1", 4);
        faultAt("on 1 ", 5);
        faultAt("on 1;off", 8);
        faultAt("o", 0);
        faultAt("on 1; x", 6);
        faultAt("one 1;", 0);
        faultAt("onon 1;", 0);
        faultAt("in 1;", 0);
        faultAt("off 4;", 4);
        faultAt(" On 1;", 1);
        faultAt("oN 1;", 0);
        faultAt(";", 0);
        faultAt("on 1;;", 5);
        faultAt("1;", 0);
        faultAt("on on 1;", 3);
        faultAt("on ;", 3);
        faultAt("on 1 2;", 5);
        faultAt("on 1 off 2;", 5);
        faultAt("on 4;", 3);
        faultAt("on 001;", 3);
        faultAt("on 100", 3);
        faultAt("on -1;", 3);
        faultAt("on 1,", 4);
        faultAt("on\t1;", 2);
        faultAt("on 1;\n", 5);
        faultAt("put 4 0 0 0;", 4);
        faultAt("put 0 6 0 0;", 6);
        faultAt("put 0 0 24 24;", 8);
        faultAt("put 0 0 0 24;", 10);
        faultAt("put 0 0 5 0;", 10);
        faultAt("put 0 0 1  4;", 11);
        faultAt("put 0 0 5 0", 10);
        faultAt("put 0 0 5", 9);
        faultAt("put 0 0 5;", 9);
        faultAt("put 0005;", 4);
        faultAt("names 4 0 1;", 6);
        faultAt("names 0 6 1;", 8);
        faultAt("names 0 0 0;", 10);
        faultAt("names 0 0 9;", 10);
        faultAt("voters 24 0;", 7);
        faultAt("voters 0 100;", 9);
        faultAt("voters 0 5;on 1;voters 1 2 3;", 27);
    }

    private static void styles() {
        StylePapers x = new StylePapers();
        due("one", x.styles(), 1);
        x.puts(1, 1, 0, 21);
        due("a layer that is off", x.styles(), 1);
        x.on(1, 1);
        due("two", x.styles(), 2);
        x.puts(0, 1, 0, 5);
        due("three of four keys that could be", x.styles(), 3);
        x.puts(0, 1, 0, 7);
        due("four", x.styles(), 4);
        x.on(0, 0);
        x.on(1, 0);
        due("all off", x.styles(), 1);
        for (int a = 0; a < 24; a++) {
            x.puts(2, a % 6, a, a);
            x.puts(3, a / 6, a, a);
        }
        x.on(2, 1);
        due("six", x.styles(), 6);
        x.on(3, 1);
        due("each block its own", x.styles(), 24);
        due("the last", x.of(23, 1), 23);
    }

    private static void style() {
        StylePapers x = new StylePapers();
        // Style 0: blocks 0, 1, 22, 23; style 1: the rest.
        x.puts(0, 5, 0, 1);
        x.puts(0, 5, 22, 23);
        x.voters(0, 10);
        x.voters(23, 20);
        x.voters(5, 0);
        due("blocks", x.style(0, 0), 4);
        due("voters", x.style(0, 1), 32);
        due("parts", x.style(0, 2), 2);
        due("contests", x.style(0, 3), 1);
        due("least", x.style(0, 4), 0);
        due("blocks", x.style(1, 0), 20);
        due("voters", x.style(1, 1), 19);
        due("parts", x.style(1, 2), 1);
        due("least", x.style(1, 4), 2);
        x.on(2, 1);
        due("contests", x.style(1, 3), 2);
        x.on(0, 0);
        x.on(2, 0);
        due("no contest", x.style(0, 3), 0);
        x.on(0, 1);
        x.puts(0, 5, 6, 6);
        due("corners do not hang together", x.style(0, 2), 3);
        x.puts(0, 5, 5, 5);
        due("sides do", x.style(0, 2), 2);
        allBad(x, 0, x.style(-1, 0), x.style(2, 0), x.style(0, -1), x.style(0, 5));
        // The end of a row and the start of the next are not side by side.
        StylePapers y = new StylePapers();
        y.puts(0, 1, 3, 3);
        y.puts(0, 1, 4, 4);
        due("ends of rows", y.style(1, 2), 2);
        y.puts(0, 1, 0, 0);
        due("ends of rows, the lower one first", y.style(0, 2), 2);
        y.puts(0, 0, 0, 23);
        y.puts(0, 1, 0, 0);
        due("block 0 alone", y.style(0, 2), 1);
        // A ring around a hole, and a winding way.
        StylePapers z = new StylePapers();
        z.puts(0, 1, 0, 10);
        z.puts(0, 0, 5, 5);
        due("a ring", z.style(0, 2), 1);
        due("outside and the hole", z.style(1, 2), 2);
    }

    private static void without() {
        StylePapers x = new StylePapers();
        x.puts(0, 1, 0, 11);
        x.puts(1, 1, 0, 21);
        due("off", x.without(0), 1);
        due("on", x.without(1), 4);
        due("like all", x.without(2), 2);
        due("nothing has changed", x.styles(), 2);
        due("no edit", x.told(8), 2);
        due("layers", x.told(7), 1);
        allBad(x, 0, x.without(-1), x.without(4));
    }

    private static void border() {
        StylePapers x = new StylePapers();
        due("none", x.border(), 0);
        x.puts(0, 1, 0, 0);
        due("a corner", x.border(), 2);
        x.puts(0, 1, 5, 5);
        due("a corner and one inside", x.border(), 6);
        x.puts(0, 2, 6, 6);
        due("unlike neighbours", x.border(), 9);
        for (int a = 0; a < 24; a++) {
            x.puts(0, (a + a / 4) % 2, a, a);
        }
        due("a chessboard: all sides", x.border(), 6 * 3 + 5 * 4);
        x.on(0, 0);
        due("off", x.border(), 0);
    }

    private static void beside() {
        StylePapers x = new StylePapers();
        x.puts(0, 1, 4, 7);
        x.puts(0, 2, 20, 23);
        // Styles by least blocks: 0 (rows 0, 2, 3, 4), 1 (row 1), 2 (row 5).
        due("above and below", x.beside(0, 1), 8);
        due("the other way round", x.beside(1, 0), 8);
        due("below", x.beside(0, 2), 4);
        due("apart", x.beside(1, 2), 0);
        x.puts(0, 2, 5, 5);
        due("left and right", x.beside(1, 2), 2);
        allBad(x, 0, x.beside(0, 0), x.beside(2, 2), x.beside(0, 3), x.beside(3, 0), x.beside(-1, 0),
            x.beside(0, -1));
    }

    private static void unlike() {
        StylePapers x = new StylePapers();
        x.on(1, 1);
        x.on(3, 1);
        x.puts(0, 1, 23, 23);
        x.puts(1, 1, 23, 23);
        x.puts(2, 1, 23, 23);
        x.puts(1, 1, 10, 10);
        due("one layer", x.unlike(0, 1), 1);
        due("two layers", x.unlike(0, 2), 2);
        due("one layer", x.unlike(2, 1), 1);
        due("alike", x.unlike(1, 1), 0);
        allBad(x, 0, x.unlike(0, 3), x.unlike(3, 0), x.unlike(-1, 0), x.unlike(0, -1));
    }

    private static void odd() {
        StylePapers x = new StylePapers();
        due("one style", x.odd(0), 0);
        due("one style", x.odd(1), 0);
        x.puts(0, 1, 0, 3);
        x.puts(0, 2, 8, 11);
        // Style 0: row 0; style 1: rows 1, 3, 4, 5 in two parts; style 2: row 2.
        due("of like ones the least", x.odd(0), 0);
        due("most parts", x.odd(1), 1);
        x.voters(8, 0);
        due("fewest voters", x.odd(0), 2);
        for (int a = 4; a < 8; a++) {
            x.voters(a, 0);
            x.voters(a + 8, 0);
            x.voters(a + 12, 0);
            x.voters(a + 16, 0);
        }
        due("fewest voters", x.odd(0), 1);
        x.puts(0, 1, 20, 23);
        due("of like parts the least", x.odd(1), 0);
        allBad(x, 0, x.odd(-1), x.odd(2));
    }

    private static void paper() {
        StylePapers x = new StylePapers();
        due("columns", x.paper(0, 3), 2);
        due("columns", x.paper(0, 1), 3);
        due("depth", x.paper(1, 4), 12);
        due("depth", x.paper(1, 30), 4);
        due("rule", x.paper(2, 3), 0);
        due("rule", x.paper(2, 0), 3);
        due("no edit", x.told(8), 0);
        allBad(x, 0, x.paper(-1, 1), x.paper(3, 1), x.paper(0, 0), x.paper(0, 4), x.paper(1, 3),
            x.paper(1, 31), x.paper(2, -1), x.paper(2, 4));
        due("columns", x.told(4), 1);
        due("depth", x.told(5), 30);
        due("rule", x.told(6), 0);
    }

    /** One style, with contests of these heights in layers 0, 1, .. */
    private static StylePapers withHeights(int columns, int depth, int... heights) {
        StylePapers x = new StylePapers();
        x.paper(0, columns);
        x.paper(1, depth);
        for (int l = 0; l < heights.length; l++) {
            x.on(l, 1);
            x.names(l, 0, heights[l] - 2);
        }
        return x;
    }

    private static void faces() {
        due("new", new StylePapers().faces(0), 1);
        due("four on one sheet", withHeights(2, 12, 4, 8, 3, 9).faces(0), 1);
        due("one more", withHeights(2, 12, 4, 9, 3, 9).faces(0), 2);
        due("one column each", withHeights(1, 10, 6, 6, 6, 6).faces(0), 4);
        due("just as deep", withHeights(1, 10, 10).faces(0), 1);
        due("bare", withHeights(1, 9, 10).faces(0), 0);
        due("bare by the last", withHeights(3, 9, 3, 3, 3, 10).faces(0), 0);
        StylePapers x = new StylePapers();
        x.on(0, 0);
        x.names(0, 0, 8);
        x.paper(1, 4);
        due("no contest, one sheet", x.faces(0), 1);
        allBad(x, 0, x.faces(-1), x.faces(1));
        // A contest that is in no style makes none bare.
        StylePapers y = new StylePapers();
        y.paper(1, 4);
        y.names(0, 3, 8);
        due("of another district", y.faces(0), 1);
        y.puts(0, 3, 1, 1);
        due("the first style", y.faces(0), 1);
        due("the second is bare", y.faces(1), 0);
    }

    private static void contest() {
        StylePapers x = withHeights(2, 12, 4, 5, 6, 7);
        x.on(1, 0);
        x.puts(2, 4, 23, 23);
        x.names(2, 4, 8);
        due("layer", x.contest(0, 0, 0), 0);
        due("layers that are off are passed over", x.contest(0, 1, 0), 2);
        due("layer", x.contest(0, 2, 0), 3);
        due("none", x.contest(0, 3, 0), NONE);
        due("none", x.contest(0, Integer.MAX_VALUE, 3), NONE);
        due("district", x.contest(0, 1, 1), 0);
        due("district", x.contest(1, 1, 1), 4);
        due("height", x.contest(0, 1, 2), 6);
        due("height", x.contest(1, 1, 2), 10);
        // Heights 4, 10, 7 at a depth of 12, NEXT: columns 0, 1 and a new sheet's first.
        due("column", x.contest(1, 0, 3), 0);
        due("column", x.contest(1, 1, 3), 1);
        due("column", x.contest(1, 2, 3), 2);
        x.paper(1, 9);
        due("bare", x.contest(1, 0, 3), NONE);
        due("height of a bare one", x.contest(1, 1, 2), 10);
        due("the other style", x.contest(0, 0, 3), 0);
        allBad(x, 0, x.contest(-1, 0, 0), x.contest(2, 0, 0), x.contest(0, -1, 0), x.contest(0, 0, -1),
            x.contest(0, 0, 4), x.contest(0, 9, 4));
    }

    private static void laid(StylePapers x, int rule, int... columns) {
        x.paper(2, rule);
        for (int k = 0; k < columns.length; k++) {
            due("rule " + rule + ", contest " + k, x.contest(0, k, 3), columns[k]);
        }
    }

    private static void rulesOfLaying() {
        // 7 and 10 leave 5 and 2: 4 fits where 5 is (NEXT does not look there), 3 fits nowhere then.
        StylePapers x = withHeights(2, 12, 7, 10, 4, 3);
        laid(x, 0, 0, 1, 2, 2);
        laid(x, 1, 0, 1, 0, 2);
        laid(x, 2, 0, 1, 0, 2);
        laid(x, 3, 0, 1, 0, 2);
        // 6 and 4 fill a column, but for LOOSE, which takes empty columns first.
        StylePapers y = withHeights(3, 10, 6, 4, 5, 3);
        laid(y, 0, 0, 0, 1, 1);
        laid(y, 1, 0, 0, 1, 1);
        laid(y, 2, 0, 0, 1, 1);
        laid(y, 3, 0, 1, 2, 1);
        // FIRST and TIGHT part where a later column has less room: 6, 7 leave 6 and 5 of 12.
        StylePapers z = withHeights(2, 12, 6, 7, 5, 6);
        laid(z, 0, 0, 1, 1, 2);
        laid(z, 1, 0, 1, 0, 2);
        laid(z, 2, 0, 1, 1, 0);
        laid(z, 3, 0, 1, 0, 2);
        // NEXT does not go back; the one behind it is of its own sheet.
        StylePapers w = withHeights(1, 10, 5, 6, 5, 4);
        laid(w, 0, 0, 1, 2, 2);
        laid(w, 1, 0, 1, 0, 1);
        laid(w, 2, 0, 1, 0, 1);
        laid(w, 3, 0, 1, 0, 1);
        // NEXT goes through all columns of a sheet, and into one that is filled.
        StylePapers u = withHeights(3, 10, 6, 10, 7, 8);
        laid(u, 0, 0, 1, 2, 3);
        // LOOSE: of like ones the first: 6 and 6 leave 4 and 4; TIGHT likewise.
        StylePapers v = withHeights(2, 10, 6, 6, 4, 4);
        laid(v, 2, 0, 1, 0, 1);
        laid(v, 3, 0, 1, 0, 1);
    }

    private static void room() {
        StylePapers x = withHeights(2, 12, 7, 10, 4, 3);
        due("two sheets, NEXT", x.room(0, 0), 48 - 24);
        due("of all", x.room(0, 1), 2 * 24);
        x.voters(0, 0);
        due("of all but one", x.room(0, 1), 2 * 23);
        x.voters(5, 99);
        due("of all", x.room(0, 1), 2 * (22 + 99));
        x.paper(1, 30);
        due("deep", x.room(0, 0), 60 - 24);
        x.paper(1, 9);
        due("bare", x.room(0, 0), NONE);
        due("bare ones 0", x.room(0, 1), 0);
        // Blocks 0 and 1, with one voter: 7 | 4 4 and 3 on a new sheet.
        x.puts(1, 1, 0, 1);
        due("the other style's", x.room(1, 1), 2);
        due("the same of any style", x.room(0, 1), 2);
        due("its room", x.room(0, 0), 36 - 7 - 4 - 4 - 3);
        due("the bare one's", x.room(1, 0), NONE);
        allBad(x, 0, x.room(-1, 0), x.room(2, 0), x.room(2, 1), x.room(0, -1), x.room(0, 2));
        StylePapers y = new StylePapers();
        y.on(0, 0);
        due("no contest", y.room(0, 0), 24);
    }

    private static void rule() {
        due("all alike", new StylePapers().rule(0), 0);
        // One column of 10: NEXT has 3 sheets, FIRST 2.
        StylePapers x = withHeights(1, 10, 5, 6, 5, 4);
        due("FIRST", x.rule(0), 1);
        due("how many", x.rule(1), 2 * 24);
        due("the rule stays", x.told(6), 0);
        // TIGHT alone has one sheet.
        StylePapers y = withHeights(2, 12, 6, 7, 5, 6);
        y.paper(2, 3);
        due("TIGHT", y.rule(0), 2);
        due("how many", y.rule(1), 24);
        // Two columns of 12, 3 and 3 and 9 and 9: LOOSE alone has one sheet.
        StylePapers z = withHeights(2, 12, 3, 3, 9, 9);
        due("LOOSE", z.rule(0), 3);
        due("how many", z.rule(1), 24);
        for (int a = 0; a < 24; a++) {
            z.voters(a, 0);
        }
        due("no voters: of like ones the least", z.rule(0), 0);
        due("none", z.rule(1), 0);
        z.paper(1, 8);
        due("bare", z.rule(0), NO);
        due("bare", z.rule(1), NO);
        due("counted", z.told(1), 2);
        allBad(z, 0, z.rule(-1), z.rule(2));
    }

    private static void leads() {
        StylePapers x = new StylePapers();
        x.names(0, 0, 3);
        x.puts(0, 1, 1, 1);
        x.puts(0, 1, 6, 6);
        x.voters(0, 0);
        due("the first", x.leads(0, 0), 0);
        due("of another district", x.leads(1, 0), 0);
        due("the second", x.leads(2, 0), 1);
        due("the third", x.leads(3, 0), 2);
        due("the fourth", x.leads(4, 0), 0);
        due("the other district's second", x.leads(6, 0), 1);
        due("the last: 21 of 22", x.leads(23, 0), 0);
        due("off", x.leads(0, 1), NONE);
        x.names(0, 0, 1);
        due("one name", x.leads(3, 0), 0);
        allBad(x, 0, x.leads(-1, 0), x.leads(24, 0), x.leads(0, -1), x.leads(0, 4), x.leads(24, 1));
    }

    private static void lead() {
        StylePapers x = new StylePapers();
        x.puts(0, 3, 0, 5);
        // Blocks 0, 1, 4, 5.
        x.names(0, 3, 3);
        x.voters(0, 10);
        x.voters(1, 20);
        x.voters(4, 30);
        x.voters(5, 40);
        due("leads of 0", x.lead(0, 3, 0), 50);
        due("leads of 1", x.lead(0, 3, 1), 20);
        due("leads of 2", x.lead(0, 3, 2), 30);
        due("not so many", x.lead(0, 3, 3), NONE);
        due("a district without blocks", x.lead(0, 5, 0), 0);
        x.on(0, 0);
        due("off", x.lead(0, 3, 0), 50);
        allBad(x, 0, x.lead(-1, 0, 0), x.lead(4, 0, 0), x.lead(0, -1, 0), x.lead(0, 6, 0),
            x.lead(0, 0, -1), x.lead(0, 0, 8));
    }

    private static void fair() {
        StylePapers x = new StylePapers();
        x.puts(0, 3, 0, 5);
        x.names(0, 3, 3);
        x.voters(0, 10);
        x.voters(1, 20);
        x.voters(4, 30);
        x.voters(5, 40);
        due("2 1 1", x.fair(0, 3, 0), 1);
        due("50 20 30", x.fair(0, 3, 1), 30);
        x.names(0, 3, 4);
        due("1 1 1 1", x.fair(0, 3, 0), 0);
        due("10 20 30 40", x.fair(0, 3, 1), 30);
        x.names(0, 3, 8);
        due("names that never lead", x.fair(0, 3, 0), 1);
        due("40 and 0", x.fair(0, 3, 1), 40);
        x.names(0, 3, 1);
        due("one name", x.fair(0, 3, 0), 0);
        due("one name", x.fair(0, 3, 1), 0);
        due("no blocks", x.fair(2, 5, 0), 0);
        due("no blocks", x.fair(2, 5, 1), 0);
        allBad(x, 0, x.fair(-1, 0, 0), x.fair(4, 0, 0), x.fair(0, -1, 0), x.fair(0, 6, 0),
            x.fair(0, 0, -1), x.fair(0, 0, 2));
    }

    private static void place() {
        StylePapers x = new StylePapers();
        x.names(0, 0, 5);
        // In block 3 the order is 3 4 0 1 2.
        int[] places = {2, 3, 4, 0, 1};
        for (int n = 0; n < 5; n++) {
            due("name " + n, x.place(3, 0, n), places[n]);
            due("name " + n + " unturned", x.place(5, 0, n), n);
        }
        due("not so many", x.place(3, 0, 5), NONE);
        due("off", x.place(3, 1, 0), NONE);
        allBad(x, 0, x.place(-1, 0, 0), x.place(24, 0, 0), x.place(0, -1, 0), x.place(0, 4, 0),
            x.place(0, 0, -1), x.place(0, 0, 8), x.place(0, 4, 9));
    }

    private static void told() {
        StylePapers x = new StylePapers();
        allBad(x, 0, x.told(-1), x.told(9), x.told(Integer.MAX_VALUE));
        x.undo();
        x.undo();
        due("NO", x.told(1), 2);
        for (int i = 0; i < 123; i++) {
            x.type(' ');
        }
        due("FULL", x.told(2), 3);
        due("bytes", x.told(3), 120);
        x.paper(0, 3);
        x.paper(1, 17);
        x.paper(2, 2);
        due("columns", x.told(4), 3);
        due("depth", x.told(5), 17);
        due("rule", x.told(6), 2);
        x.on(2, 1);
        x.on(3, 1);
        due("layers", x.told(7), 13);
        due("edits", x.told(8), 2);
        due("BAD", x.told(0), 3);
    }

    private static void digest() {
        StylePapers x = new StylePapers();
        due("new", x.digest(), digestByCalls(x));
        x.told(9);
        x.undo();
        x.draw(0, 77, 4);
        x.draw(3, 78, 6);
        x.on(3, 1);
        x.names(3, 2, 8);
        x.names(0, 1, 1);
        x.paper(1, 9);
        x.paper(2, 1);
        x.type(59);
        long before = x.digest();
        due("drawn", before, digestByCalls(x));
        due("it changes nothing", x.digest(), before);
    }

    private static long digestByCalls(StylePapers x) {
        long h = 2027;
        for (int i = 0; i < 9; i++) {
            h = 31 * h + x.told(i);
        }
        for (int a = 0; a < 24; a++) {
            for (int what : new int[] {0, 2, 3, 4, 5}) {
                h = 31 * h + x.of(a, what);
            }
        }
        for (int l = 0; l < 4; l++) {
            for (int d = 0; d < 6; d++) {
                int n = 8;
                while (n > 1 && x.lead(l, d, n - 1) == NONE) {
                    n--;
                }
                h = 31 * h + n;
            }
        }
        h = 31 * h + x.styles();
        h = 31 * h + x.border();
        for (int s = 0; s < x.styles(); s++) {
            h = 31 * h + x.faces(s);
        }
        return h;
    }
}

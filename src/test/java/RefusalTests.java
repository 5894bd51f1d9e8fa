import java.util.ArrayList;
import java.util.LinkedHashMap;
import java.util.List;
import java.util.Map;

/**
 * What is refused changes nothing but how often. Each call is made on one of two objects that were made alike; all
 * that can be seen of both behind it, to the last edit undone, must be alike, but for the count of that refusal.
 */
public final class RefusalTests {
    private static final int NONE = StylePapers.NONE;
    private static final int BAD = StylePapers.BAD;
    private static final int NO = StylePapers.NO;
    private static final int FULL = StylePapers.FULL;
    private static final int MIN = Integer.MIN_VALUE;
    private static final int MAX = Integer.MAX_VALUE;
    private static int wrong = 0;
    private static int tried = 0;

    private interface Call {
        long on(StylePapers x);
    }

    private interface Start {
        StylePapers make();
    }

    public static void main(String[] args) {
        Map<String, Start> starts = new LinkedHashMap<>();
        starts.put("new", StylePapers::new);
        starts.put("some", RefusalTests::some);
        starts.put("full", RefusalTests::full);
        starts.put("off", RefusalTests::allOff);
        starts.put("bare", RefusalTests::bare);
        starts.forEach((name, start) -> {
            wrongNumbers().forEach((call, made) -> sameBut(name + ", " + call, start, made, BAD, 0));
            faultyTexts().forEach((text, place) -> fault(name, start, text, place));
            readings().forEach((call, made) -> same(name + ", " + call, start, made));
        });
        noAndFull();
        System.out.println(wrong == 0 ? tried + " calls changed nothing but how often" : wrong + " faults");
        if (wrong != 0) {
            System.exit(1);
        }
    }

    private static void say(StylePapers x, String text) {
        x.clear();
        for (char c : text.toCharArray()) {
            x.type(c);
        }
    }

    /** Several styles, some edits, a text that tells orders, one refusal of BAD and one of NO. */
    private static StylePapers some() {
        StylePapers x = new StylePapers();
        x.undo();
        x.told(9);
        x.draw(0, 11, 3);
        x.draw(2, 12, 2);
        x.on(2, 1);
        x.names(0, 1, 7);
        x.names(2, 0, 5);
        x.voters(23, 99);
        x.paper(0, 3);
        x.paper(1, 20);
        x.paper(2, 2);
        say(x, "on 1;voters 3 77;names 3 5 8;");
        return x;
    }

    /** Each block a style of its own, eight edits and more, a text of 120 bytes, a refusal of each kind. */
    private static StylePapers full() {
        StylePapers x = new StylePapers();
        x.undo();
        x.undo();
        x.told(9);
        for (int c = 0; c < 4; c++) {
            x.puts(0, c, c, 20 + c);
        }
        for (int r = 0; r < 6; r++) {
            x.puts(3, r, 4 * r, 4 * r + 3);
        }
        x.on(3, 1);
        x.voters(0, 0);
        x.names(3, 5, 8);
        say(x, "put 1 2 3 23;".repeat(9) + "   ");
        x.type(';');
        x.type(';');
        return x;
    }

    private static StylePapers allOff() {
        StylePapers x = new StylePapers();
        x.draw(1, 999999, 6);
        x.on(0, 0);
        say(x, "off 0;on 1");
        return x;
    }

    private static StylePapers bare() {
        StylePapers x = new StylePapers();
        x.puts(0, 5, 23, 23);
        x.names(0, 5, 8);
        x.paper(1, 9);
        return x;
    }

    /** The last that is not as told, or the first, of each number of each call; all others are as told. */
    private static Map<String, Call> wrongNumbers() {
        Map<String, Call> all = new LinkedHashMap<>();
        for (int v : new int[] {MIN, -1, 4, MAX}) {
            all.put("on l " + v, x -> x.on(v, 1));
            all.put("puts l " + v, x -> x.puts(v, 1, 0, 23));
            all.put("names l " + v, x -> x.names(v, 0, 4));
            all.put("draw l " + v, x -> x.draw(v, 1, 3));
            all.put("follows l " + v, x -> x.follows(v, 1, 0));
            all.put("follows k " + v, x -> x.follows(1, 0, v));
            all.put("follows k, columns, " + v, x -> x.follows(0, 1, v));
            all.put("follows k, rows, " + v, x -> x.follows(0, 2, v));
            all.put("follows k, greater, " + v, x -> x.follows(0, 3, v));
            all.put("follows way " + v, x -> x.follows(0, v, 1));
            all.put("without l " + v, x -> x.without(v));
            all.put("leads l " + v, x -> x.leads(0, v));
            all.put("lead l " + v, x -> x.lead(v, 0, 0));
            all.put("fair l " + v, x -> x.fair(v, 0, 0));
            all.put("place l " + v, x -> x.place(0, v, 0));
            all.put("paper rule " + v, x -> x.paper(2, v));
            all.put("contest what " + v, x -> x.contest(0, 0, v));
        }
        for (int v : new int[] {MIN, -1, 6, MAX}) {
            all.put("puts d " + v, x -> x.puts(1, v, 0, 23));
            all.put("names d " + v, x -> x.names(0, v, 4));
            all.put("of what " + v, x -> x.of(0, v));
            all.put("lead d " + v, x -> x.lead(0, v, 0));
            all.put("fair d " + v, x -> x.fair(0, v, 0));
        }
        for (int v : new int[] {MIN, -1, 24, MAX}) {
            all.put("puts a " + v, x -> x.puts(1, 1, v, 23));
            all.put("puts b " + v, x -> x.puts(1, 1, 0, v));
            all.put("puts a and b " + v, x -> x.puts(1, 1, v, v));
            all.put("voters a " + v, x -> x.voters(v, 50));
            all.put("of a " + v, x -> x.of(v, 0));
            all.put("of a, style, " + v, x -> x.of(v, 1));
            all.put("of a, district, " + v, x -> x.of(v, 5));
            all.put("leads a " + v, x -> x.leads(v, 0));
            all.put("place a " + v, x -> x.place(v, 0, 0));
        }
        for (int v : new int[] {MIN, -1, 2, MAX}) {
            all.put("on to " + v, x -> x.on(1, v));
            all.put("odd what " + v, x -> x.odd(v));
            all.put("room what " + v, x -> x.room(0, v));
            all.put("rule what " + v, x -> x.rule(v));
            all.put("fair what " + v, x -> x.fair(0, 0, v));
        }
        otherNumbers(all);
        rectangles(all);
        styleNumbers(all);
        return all;
    }

    private static void otherNumbers(Map<String, Call> all) {
        for (int v : new int[] {MIN, -1, 0, 9, MAX}) {
            all.put("names n " + v, x -> x.names(1, 1, v));
        }
        for (int v : new int[] {MIN, -1, 100, MAX}) {
            all.put("voters n " + v, x -> x.voters(1, v));
        }
        for (int v : new int[] {MIN, -1, 1000000, MAX}) {
            all.put("draw seed " + v, x -> x.draw(1, v, 3));
        }
        for (int v : new int[] {MIN, -1, 0, 7, MAX}) {
            all.put("draw n " + v, x -> x.draw(1, 5, v));
        }
        for (int v : new int[] {MIN, -1, 128, MAX}) {
            all.put("type " + v, x -> x.type(v));
        }
        for (int v : new int[] {MIN, -1, 3, MAX}) {
            all.put("paper what " + v, x -> x.paper(v, 1));
        }
        for (int v : new int[] {MIN, -1, 0, 4, MAX}) {
            all.put("paper columns " + v, x -> x.paper(0, v));
        }
        for (int v : new int[] {MIN, -1, 0, 3, 31, MAX}) {
            all.put("paper depth " + v, x -> x.paper(1, v));
        }
        for (int v : new int[] {MIN, -1, 8, MAX}) {
            all.put("lead n " + v, x -> x.lead(0, 0, v));
            all.put("place n " + v, x -> x.place(0, 0, v));
            all.put("place n, a layer that is off, " + v, x -> x.place(0, 1, v));
        }
        for (int v : new int[] {MIN, -1, 9, MAX}) {
            all.put("told what " + v, x -> x.told(v));
        }
        for (int v : new int[] {MIN, -1, 5, MAX}) {
            all.put("style what " + v, x -> x.style(0, v));
        }
        for (int v : new int[] {MIN, -1}) {
            all.put("contest k " + v, x -> x.contest(0, v, 0));
            all.put("contest k, column, " + v, x -> x.contest(0, v, 3));
        }
        // BAD comes ahead of NONE and of NO.
        all.put("contest k too great, what 4", x -> x.contest(0, 9, 4));
        all.put("leads a 24, a layer that is off", x -> x.leads(24, 1));
        all.put("place a 24, a layer that is off", x -> x.place(24, 1, 7));
    }

    /** All rectangles whose first row or column is greater than the last. */
    private static void rectangles(Map<String, Call> all) {
        for (int a = 0; a < 24; a++) {
            int left = a % 4 == 0 ? NONE : a - 1;
            int above = a < 4 ? NONE : a - 4;
            int belowLeft = a % 4 == 0 || a > 19 ? NONE : a + 3;
            int aboveRight = a % 4 == 3 || a < 4 ? NONE : a - 3;
            for (int b : new int[] {left, above, belowLeft, aboveRight}) {
                if (b != NONE) {
                    int from = a;
                    all.put("puts " + a + " " + b, x -> x.puts(0, 5, from, b));
                }
            }
        }
    }

    private static void styleNumbers(Map<String, Call> all) {
        for (int v : new int[] {MIN, -1, MAX}) {
            ofStyle(all, "" + v, x -> v);
        }
        ofStyle(all, "as many as there are", StylePapers::styles);
        for (int s = 0; s < 24; s++) {
            int own = s;
            all.put("beside alike " + s, x -> x.beside(own, own));
        }
    }

    private static void ofStyle(Map<String, Call> all, String name, Call style) {
        for (int what = 0; what < 5; what++) {
            int asked = what;
            all.put("style s " + name + " what " + what, x -> x.style((int) style.on(x), asked));
        }
        for (int what = 0; what < 4; what++) {
            int asked = what;
            all.put("contest s " + name + " what " + what, x -> x.contest((int) style.on(x), 0, asked));
        }
        all.put("beside s " + name, x -> x.beside((int) style.on(x), 0));
        all.put("beside o " + name, x -> x.beside(0, (int) style.on(x)));
        all.put("unlike s " + name, x -> x.unlike((int) style.on(x), 0));
        all.put("unlike o " + name, x -> x.unlike(0, (int) style.on(x)));
        all.put("unlike both " + name, x -> x.unlike((int) style.on(x), (int) style.on(x)));
        all.put("faces s " + name, x -> x.faces((int) style.on(x)));
        all.put("room s " + name, x -> x.room((int) style.on(x), 0));
        all.put("room of all, s " + name, x -> x.room((int) style.on(x), 1));
        all.put("contest k too great, s " + name, x -> x.contest((int) style.on(x), 4, 0));
    }

    /** Texts with orders ahead of the fault: those are not done either. */
    private static Map<String, Integer> faultyTexts() {
        Map<String, Integer> all = new LinkedHashMap<>();
        all.put("", 0);
        all.put("  ", 2);
        all.put("on 1;off 0;voters 0 55", 22);
        all.put("put 0 5 0 23;names 0 0 8;on 4;", 28);
        all.put("voters 0 9;put 0 5 1 0;", 21);
        all.put("on 1;x", 5);
        return all;
    }

    /** Calls that only look, with numbers that are as told: they count nothing, NONE or not. */
    private static Map<String, Call> readings() {
        Map<String, Call> all = new LinkedHashMap<>();
        for (int v = 0; v < 6; v++) {
            int what = v;
            all.put("of 0 " + v, x -> x.of(0, what));
            all.put("of 23 " + v, x -> x.of(23, what));
            all.put("lead 3 5 " + v, x -> x.lead(3, 5, what));
            all.put("contest last " + v, x -> x.contest(x.styles() - 1, what, 3));
            all.put("contest " + v, x -> x.contest(0, what, 2));
        }
        for (int v = 0; v < 4; v++) {
            int what = v;
            all.put("without " + v, x -> x.without(what));
            all.put("leads 23 " + v, x -> x.leads(23, what));
            all.put("place 23 " + v, x -> x.place(23, what, 7));
            all.put("place 0 " + v, x -> x.place(0, what, 0));
        }
        for (int v = 0; v < 5; v++) {
            int what = v;
            all.put("style last " + v, x -> x.style(x.styles() - 1, what));
        }
        for (int v = 0; v < 2; v++) {
            int what = v;
            all.put("odd " + v, x -> x.odd(what));
            all.put("room " + v, x -> x.room(x.styles() - 1, what));
            all.put("fair " + v, x -> x.fair(3, 5, what));
        }
        for (int v = 0; v < 9; v++) {
            int what = v;
            all.put("told " + v, x -> x.told(what));
        }
        all.put("contest k the greatest", x -> x.contest(0, MAX, 3));
        all.put("styles", x -> x.styles());
        all.put("border", x -> x.border());
        all.put("beside the next", x -> x.styles() == 1 ? 0 : x.beside(x.styles() - 1, 0));
        all.put("unlike the last", x -> x.unlike(0, x.styles() - 1));
        all.put("unlike alike", x -> x.unlike(0, 0));
        all.put("faces", x -> x.faces(x.styles() - 1));
        all.put("digest", x -> x.digest());
        return all;
    }

    private static void noAndFull() {
        sameBut("new, undo", StylePapers::new, x -> x.undo(), NO, 1);
        sameBut("undone, undo", () -> {
            StylePapers x = some();
            for (int left = 5; left >= 0; left--) {
                x.undo();
            }
            return x;
        }, x -> x.undo(), NO, 1);
        sameBut("eight undone, undo", () -> {
            StylePapers x = full();
            for (int left = 7; left >= 0; left--) {
                x.undo();
            }
            return x;
        }, x -> x.undo(), NO, 1);
        for (int what : new int[] {0, 1}) {
            sameBut("bare, rule " + what, RefusalTests::bare, x -> x.rule(what), NO, 1);
            same("none bare, rule " + what, RefusalTests::some, x -> x.rule(what));
            same("off, rule " + what, RefusalTests::allOff, x -> x.rule(what));
        }
        for (int c : new int[] {0, ' ', ';', 'a', 127}) {
            sameBut("full, type " + c, RefusalTests::full, x -> x.type(c), FULL, 2);
        }
    }

    private static void fault(String name, Start start, String text, int place) {
        Start typed = () -> {
            StylePapers x = start.make();
            say(x, text);
            return x;
        };
        must(name + ", text '" + text + "'", typed.make().does() == -10 - place);
        same(name + ", text '" + text + "'", typed, x -> x.does());
    }

    private static void must(String what, boolean holds) {
        if (!holds) {
            wrong++;
            System.out.println(what + " is not as due");
        }
    }

    private static void sameBut(String name, Start start, Call call, int answer, int counter) {
        StylePapers x = start.make();
        StylePapers y = start.make();
        long got = call.on(x);
        if (got != answer) {
            wrong++;
            System.out.println(name + " answered " + got + ", due is " + answer);
        }
        compare(name, x, y, counter);
    }

    private static void same(String name, Start start, Call call) {
        StylePapers x = start.make();
        StylePapers y = start.make();
        call.on(x);
        compare(name, x, y, NONE);
    }

    private static void compare(String name, StylePapers x, StylePapers y, int counter) {
        tried++;
        for (int i = 0; i < 3; i++) {
            must(name + ": how often, told(" + i + ")", x.told(i) == y.told(i) + (i == counter ? 1 : 0));
        }
        List<Long> seenOfX = seen(x);
        List<Long> seenOfY = seen(y);
        for (int i = 0; i < seenOfX.size() && i < seenOfY.size(); i++) {
            if (!seenOfX.get(i).equals(seenOfY.get(i))) {
                must(name + ": look " + i + " behind it (" + seenOfX.get(i) + ", not " + seenOfY.get(i) + ")", false);
                return;
            }
        }
        must(name + ": as many looks", seenOfX.size() == seenOfY.size());
    }

    /** All that can be seen, but how often: the state, the text by what it does, and all that can be undone. */
    private static List<Long> seen(StylePapers x) {
        List<Long> all = new ArrayList<>();
        for (int i = 3; i < 9; i++) {
            all.add((long) x.told(i));
        }
        for (int a = 0; a < 24; a++) {
            for (int what = 0; what < 6; what++) {
                all.add((long) x.of(a, what));
            }
        }
        all.add(digestWithoutCounts(x));
        all.add((long) x.does());
        all.add(digestWithoutCounts(x));
        for (int left = 0; left < 9; left++) {
            all.add((long) x.undo());
            all.add(digestWithoutCounts(x));
        }
        all.add((long) x.clear());
        for (int l = 0; l < 4; l++) {
            for (int d = 0; d < 6; d++) {
                all.add((long) x.names(l, d, 1));
            }
        }
        return all;
    }

    /** What told(0) to told(2) put into the digest is taken out of it again. */
    private static long digestWithoutCounts(StylePapers x) {
        int values = 9 + 24 * 5 + 24 + 2 + x.styles();
        long h = x.digest();
        for (int i = 0; i < 3; i++) {
            h -= power(values - 1 - i) * x.told(i);
        }
        return h;
    }

    private static long power(int many) {
        long p = 1;
        for (int i = 0; i < many; i++) {
            p *= 31;
        }
        return p;
    }
}

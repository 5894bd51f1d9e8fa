import java.util.ArrayDeque;
import java.util.ArrayList;
import java.util.Deque;
import java.util.List;
import java.util.Random;
import java.util.TreeSet;
import java.util.regex.Matcher;
import java.util.regex.Pattern;

/** Long seeded runs of calls, each answer held against a second, slow telling of the document. */
public final class ModelTests {
    private static final int RUNS = 1200;
    private static final int CALLS = 512;
    private static final String[] CALL_NAMES = {
        "on", "puts", "names", "voters", "draw", "follows", "undo", "of", "type", "clear", "does",
        "styles", "style", "without", "border", "beside", "unlike", "odd", "paper", "faces", "contest",
        "room", "rule", "leads", "lead", "fair", "place", "told", "digest",
    };
    private static final String[] PIECES = {
        "on", "off", "put", "names", "voters", ";", ";", " ", "0", "1", "2", "3", "5", "8", "12", "23",
        "24", "99", "100", "x", "A", "on 1;", "put 2 1 4 3;", "names 1 0 9;", "voters 24 1;", "voters 0",
    };
    private static final String[] ORDERS = {
        "on 1;", "off 0;", "put 1 2 0 23;", "put 0 3 5 11;", "names 0 1 8;", "voters 7 30;", "on2;on3;", " ",
        "put 3 5 02 22 ;", "names00 0 1;", "off 2;off 3;", "voters23 0 ;", "put0 4 8 09;",
    };
    private static final int CLEARS = 1001;
    private static final int DOES = 1002;

    public static void main(String[] args) {
        int wrong = 0;
        for (int run = 0; run < RUNS && wrong < 10; run++) {
            if (!agrees(run)) {
                wrong++;
            }
        }
        System.out.println(wrong == 0 ? RUNS + " runs agree with the model" : wrong + " runs do not agree");
        if (wrong != 0) {
            System.exit(1);
        }
    }

    private static boolean agrees(int run) {
        Random random = new Random(run);
        StylePapers x = new StylePapers();
        Model model = new Model();
        Deque<Integer> waiting = new ArrayDeque<>();
        for (int i = 0; i < CALLS; i++) {
            String call = waiting.isEmpty() ? CALL_NAMES[random.nextInt(CALL_NAMES.length)] : "type";
            int style = model.styleLeasts(model.on).size() - 1;
            int[] in = new int[4];
            for (int j = 0; j < 4; j++) {
                in[j] = argument(random, usualMost(style, call, j));
            }
            // Bytes by chance alone would hardly ever tell an order: most are of pieces of a text.
            if (waiting.isEmpty() && call.equals("type") && random.nextInt(8) > 0) {
                waitForPieces(random, waiting);
            }
            if (!waiting.isEmpty()) {
                in[0] = waiting.poll();
            }
            if (in[0] == CLEARS) {
                call = "clear";
            } else if (in[0] == DOES) {
                call = "does";
            }
            long got = Asked.answer(x, call, in);
            long want = model.answer(call, in);
            if (got != want) {
                System.out.println("run " + run + ", call " + i + ": " + call + "(" + in[0] + ", " + in[1] + ", "
                    + in[2] + ", " + in[3] + ") answered " + got + ", the model " + want);
                return false;
            }
        }
        return true;
    }

    private static void waitForPieces(Random random, Deque<Integer> waiting) {
        if (random.nextInt(3) > 0) {
            waiting.add(CLEARS);
        }
        int whole = random.nextInt(3);
        for (int many = random.nextInt(4); many >= 0; many--) {
            String[] pieces = whole > 0 ? ORDERS : PIECES;
            for (char c : pieces[random.nextInt(pieces.length)].toCharArray()) {
                waiting.add((int) c);
            }
        }
        waiting.add(DOES);
    }

    private static int argument(Random random, int most) {
        int luck = random.nextInt(100);
        if (luck == 0) {
            return random.nextInt();
        }
        if (luck == 1) {
            return random.nextBoolean() ? Integer.MAX_VALUE : Integer.MIN_VALUE;
        }
        return luck < 8 ? random.nextInt(most + 4) - 2 : random.nextInt(most + 1);
    }

    private static int usualMost(int style, String call, int j) {
        switch (call) {
            case "on": return j == 0 ? 3 : 1;
            case "puts": return j == 0 ? 3 : j == 1 ? 5 : 23;
            case "names": return j == 0 ? 3 : j == 1 ? 5 : 8;
            case "voters": return j == 0 ? 23 : 99;
            case "draw": return j == 0 ? 3 : j == 1 ? 999999 : 6;
            case "follows": return 3;
            case "of": return j == 0 ? 23 : 5;
            case "type": return 127;
            case "style": return j == 0 ? style : 4;
            case "without": return 3;
            case "beside", "unlike": return style;
            case "paper": return j == 0 ? 2 : j == 1 ? 30 : 3;
            case "faces": return style;
            case "contest": return j == 0 ? style : 3;
            case "room": return j == 0 ? style : 1;
            case "leads": return j == 0 ? 23 : 3;
            case "lead": return j == 0 ? 3 : j == 1 ? 5 : 7;
            case "fair": return j == 0 ? 3 : j == 1 ? 5 : 1;
            case "place": return j == 0 ? 23 : j == 1 ? 3 : 7;
            case "told": return 8;
            default: return 1;
        }
    }

    /** A call by its name. */
    private static final class Asked {
        static long answer(StylePapers x, String call, int[] in) {
            switch (call) {
                case "on": return x.on(in[0], in[1]);
                case "puts": return x.puts(in[0], in[1], in[2], in[3]);
                case "names": return x.names(in[0], in[1], in[2]);
                case "voters": return x.voters(in[0], in[1]);
                case "draw": return x.draw(in[0], in[1], in[2]);
                case "follows": return x.follows(in[0], in[1], in[2]);
                case "undo": return x.undo();
                case "of": return x.of(in[0], in[1]);
                case "type": return x.type(in[0]);
                case "clear": return x.clear();
                case "does": return x.does();
                case "styles": return x.styles();
                case "style": return x.style(in[0], in[1]);
                case "without": return x.without(in[0]);
                case "border": return x.border();
                case "beside": return x.beside(in[0], in[1]);
                case "unlike": return x.unlike(in[0], in[1]);
                case "odd": return x.odd(in[0]);
                case "paper": return x.paper(in[0], in[1]);
                case "faces": return x.faces(in[0]);
                case "contest": return x.contest(in[0], in[1], in[2]);
                case "room": return x.room(in[0], in[1]);
                case "rule": return x.rule(in[0]);
                case "leads": return x.leads(in[0], in[1]);
                case "lead": return x.lead(in[0], in[1], in[2]);
                case "fair": return x.fair(in[0], in[1], in[2]);
                case "place": return x.place(in[0], in[1], in[2]);
                case "told": return x.told(in[0]);
                default: return x.digest();
            }
        }
    }

    /** The document told once more, with the library's collections and no thought of speed. */
    private static final class Model {
        private final int[][][] district = new int[4][6][4];
        private final int[][] voters = new int[6][4];
        private final int[][] names = new int[4][6];
        private final boolean[] on = {true, false, false, false};
        private final List<Runnable> past = new ArrayList<>();
        private final StringBuilder text = new StringBuilder();
        private final int[] refused = new int[3];
        private final int[] paper = {2, 12, 0};

        Model() {
            for (int[] row : voters) {
                java.util.Arrays.fill(row, 1);
            }
            for (int[] row : names) {
                java.util.Arrays.fill(row, 2);
            }
        }

        long answer(String call, int[] in) {
            Long answer = answerOrNull(call, in);
            if (answer == null) {
                refused[0]++;
                return -2;
            }
            if (answer == -3 || answer == -4) {
                refused[(int) -answer - 2]++;
            }
            return answer;
        }

        private Long answerOrNull(String call, int[] in) {
            switch (call) {
                case "on", "puts", "names", "voters", "draw", "follows": return edit(call, in);
                case "undo": return undo();
                case "type": return in[0] < 0 || in[0] > 127 ? null : (Long) type(in[0]);
                case "clear": {
                    long was = text.length();
                    text.setLength(0);
                    return was;
                }
                case "does": return does();
                case "paper": return setPaper(in[0], in[1]);
                case "told": return in[0] < 0 || in[0] > 8 ? null : (Long) told(in[0]);
                case "digest": return digest();
                case "of", "leads", "lead", "fair", "place": return askTown(call, in);
                default: return askStyles(call, in);
            }
        }

        private static boolean is(int v, int low, int high) {
            return low <= v && v <= high;
        }

        private Long edit(String call, int[] in) {
            boolean fine;
            switch (call) {
                case "on": fine = is(in[0], 0, 3) && is(in[1], 0, 1); break;
                case "puts": fine = is(in[0], 0, 3) && is(in[1], 0, 5) && is(in[2], 0, 23) && is(in[3], 0, 23)
                    && in[2] / 4 <= in[3] / 4 && in[2] % 4 <= in[3] % 4; break;
                case "names": fine = is(in[0], 0, 3) && is(in[1], 0, 5) && is(in[2], 1, 8); break;
                case "voters": fine = is(in[0], 0, 23) && is(in[1], 0, 99); break;
                case "draw": fine = is(in[0], 0, 3) && is(in[1], 0, 999999) && is(in[2], 1, 6); break;
                default: fine = is(in[0], 0, 3) && is(in[1], 0, 3) && is(in[2], 0, 3); break;
            }
            if (!fine) {
                return null;
            }
            keep();
            return change(call, in);
        }

        private void keep() {
            int[][][] oldDistrict = new int[4][6][];
            for (int l = 0; l < 4; l++) {
                for (int r = 0; r < 6; r++) {
                    oldDistrict[l][r] = district[l][r].clone();
                }
            }
            int[][] oldVoters = new int[6][];
            for (int r = 0; r < 6; r++) {
                oldVoters[r] = voters[r].clone();
            }
            int[][] oldNames = new int[4][];
            for (int l = 0; l < 4; l++) {
                oldNames[l] = names[l].clone();
            }
            boolean[] oldOn = on.clone();
            past.add(() -> {
                for (int l = 0; l < 4; l++) {
                    district[l] = oldDistrict[l];
                    names[l] = oldNames[l];
                    on[l] = oldOn[l];
                }
                for (int r = 0; r < 6; r++) {
                    voters[r] = oldVoters[r];
                }
            });
            if (past.size() > 8) {
                past.remove(0);
            }
        }

        private long undo() {
            if (past.isEmpty()) {
                return -3;
            }
            past.remove(past.size() - 1).run();
            return past.size();
        }

        private long change(String call, int[] in) {
            int was;
            switch (call) {
                case "on": {
                    boolean other = on[in[0]] != (in[1] == 1);
                    on[in[0]] = in[1] == 1;
                    return other ? 1 : 0;
                }
                case "puts": {
                    int[][] to = new int[6][4];
                    for (int a = 0; a < 24; a++) {
                        boolean inside = is(a / 4, in[2] / 4, in[3] / 4) && is(a % 4, in[2] % 4, in[3] % 4);
                        to[a / 4][a % 4] = inside ? in[1] : district[in[0]][a / 4][a % 4];
                    }
                    return become(in[0], to);
                }
                case "names":
                    was = names[in[0]][in[1]];
                    names[in[0]][in[1]] = in[2];
                    return was;
                case "voters":
                    was = voters[in[0] / 4][in[0] % 4];
                    voters[in[0] / 4][in[0] % 4] = in[1];
                    return was;
                case "draw": return draw(in[0], in[1], in[2]);
                default: return follow(in[0], in[1], in[2]);
            }
        }

        private long become(int l, int[][] to) {
            long many = 0;
            for (int r = 0; r < 6; r++) {
                for (int c = 0; c < 4; c++) {
                    many += to[r][c] != district[l][r][c] ? 1 : 0;
                }
            }
            district[l] = to;
            return many;
        }

        private long draw(int l, int seed, int n) {
            java.math.BigInteger x = java.math.BigInteger.valueOf(seed);
            long all = 0;
            for (int a = 0; a < 24; a++) {
                x = x.multiply(java.math.BigInteger.valueOf(1103515245)).add(java.math.BigInteger.valueOf(12345))
                    .mod(java.math.BigInteger.valueOf(2147483648L));
                district[l][a / 4][a % 4] = (int) (x.longValue() / 65536 % n);
                voters[a / 4][a % 4] = (int) (x.longValue() / 1024 % 30);
                all += voters[a / 4][a % 4];
            }
            return all;
        }

        private long follow(int l, int way, int k) {
            int[][] to = new int[6][4];
            for (int r = 0; r < 6; r++) {
                for (int c = 0; c < 4; c++) {
                    int own = district[l][r][c];
                    to[r][c] = way == 0 ? district[k][r][c] : way == 1 ? district[l][r][3 - c]
                        : way == 2 ? district[l][5 - r][c] : Math.max(own, district[k][r][c]);
                }
            }
            return become(l, to);
        }

        private long type(int c) {
            if (text.length() == 120) {
                return -4;
            }
            text.append((char) c);
            return text.length();
        }

        private long does() {
            List<String> pieces = new ArrayList<>();
            List<Integer> places = new ArrayList<>();
            Matcher matcher = Pattern.compile("[a-z]+|[0-9]+|[^ ]", Pattern.DOTALL).matcher(text);
            while (matcher.find()) {
                pieces.add(matcher.group());
                places.add(matcher.start());
            }
            pieces.add("");
            places.add(text.length());
            List<Runnable> orders = new ArrayList<>();
            int at = 0;
            do {
                int stop = orderFrom(pieces, at, orders);
                if (stop < 0) {
                    return -10 - places.get(-stop - 1);
                }
                at = stop;
            } while (!pieces.get(at).isEmpty());
            keep();
            orders.forEach(Runnable::run);
            return orders.size();
        }

        /** The index behind the order, or the index of the piece at fault, less 1, below 0. */
        private int orderFrom(List<String> pieces, int at, List<Runnable> orders) {
            int[][] most;
            String word = pieces.get(at);
            switch (word) {
                case "on", "off": most = new int[][] {{0, 3}}; break;
                case "put": most = new int[][] {{0, 3}, {0, 5}, {0, 23}, {0, 23}}; break;
                case "names": most = new int[][] {{0, 3}, {0, 5}, {1, 8}}; break;
                case "voters": most = new int[][] {{0, 23}, {0, 99}}; break;
                default: return -at - 1;
            }
            int[] in = new int[4];
            for (int i = 0; i < most.length; i++) {
                String number = pieces.get(at + 1 + i);
                if (!number.matches("[0-9]{1,2}") || !is(Integer.parseInt(number), most[i][0], most[i][1])) {
                    return -(at + 1 + i) - 1;
                }
                in[i] = Integer.parseInt(number);
            }
            if (word.equals("put") && (in[2] / 4 > in[3] / 4 || in[2] % 4 > in[3] % 4)) {
                return -(at + 4) - 1;
            }
            int end = at + 1 + most.length;
            if (!pieces.get(end).equals(";")) {
                return -end - 1;
            }
            if (word.equals("on") || word.equals("off")) {
                in[1] = word.equals("on") ? 1 : 0;
            }
            String call = word.equals("put") ? "puts" : word.equals("off") ? "on" : word;
            orders.add(() -> change(call, in));
            return end + 1;
        }

        private Long setPaper(int what, int v) {
            int[][] bounds = {{1, 3}, {4, 30}, {0, 3}};
            if (!is(what, 0, 2) || !is(v, bounds[what][0], bounds[what][1])) {
                return null;
            }
            long was = paper[what];
            paper[what] = v;
            return was;
        }

        private long told(int what) {
            int bits = 0;
            for (int l = 0; l < 4; l++) {
                bits += on[l] ? 1 << l : 0;
            }
            int[] all = {refused[0], refused[1], refused[2], text.length(), paper[0], paper[1], paper[2], bits,
                past.size()};
            return all[what];
        }

        private String key(int a, boolean[] layers) {
            StringBuilder key = new StringBuilder();
            for (int l = 0; l < 4; l++) {
                key.append(layers[l] ? "" + at(l, a) : "-");
            }
            return key.toString();
        }

        private int at(int l, int a) {
            return district[l][a / 4][a % 4];
        }

        List<Integer> styleLeasts(boolean[] layers) {
            List<Integer> leasts = new ArrayList<>();
            List<String> keys = new ArrayList<>();
            for (int a = 0; a < 24; a++) {
                if (!keys.contains(key(a, layers))) {
                    keys.add(key(a, layers));
                    leasts.add(a);
                }
            }
            return leasts;
        }

        private int[] stylesOfAll() {
            List<String> keys = new ArrayList<>();
            for (int a : styleLeasts(on)) {
                keys.add(key(a, on));
            }
            int[] all = new int[24];
            for (int a = 0; a < 24; a++) {
                all[a] = keys.indexOf(key(a, on));
            }
            return all;
        }

        private Long askTown(String call, int[] in) {
            boolean ofBlock = call.equals("of") || call.equals("leads") || call.equals("place");
            if (!is(in[0], 0, ofBlock ? 23 : 3)) {
                return null;
            }
            int most = call.equals("of") || !ofBlock ? 5 : 3;
            if (!is(in[1], 0, most)) {
                return null;
            }
            if (call.equals("fair") && !is(in[2], 0, 1)) {
                return null;
            }
            if ((call.equals("lead") || call.equals("place")) && !is(in[2], 0, 7)) {
                return null;
            }
            switch (call) {
                case "of":
                    return (long) (in[1] == 0 ? voters[in[0] / 4][in[0] % 4] : in[1] == 1 ? stylesOfAll()[in[0]]
                        : at(in[1] - 2, in[0]));
                case "leads": return on[in[1]] ? (long) order(in[0], in[1]).get(0) : -1L;
                case "place": return on[in[1]] ? (long) order(in[0], in[1]).indexOf(in[2]) : -1L;
                case "lead": return in[2] >= names[in[0]][in[1]] ? -1L : ledBy(in[0], in[1], in[2], true);
                default: return fairness(in[0], in[1], in[2] == 1);
            }
        }

        private List<Integer> order(int a, int l) {
            List<Integer> order = new ArrayList<>();
            for (int n = 0; n < names[l][at(l, a)]; n++) {
                order.add(n);
            }
            for (int b = 0; b < a; b++) {
                if (at(l, b) == at(l, a)) {
                    order.add(order.remove(0));
                }
            }
            return order;
        }

        private long ledBy(int l, int d, int n, boolean people) {
            long many = 0;
            for (int a = 0; a < 24; a++) {
                if (at(l, a) == d && order(a, l).get(0) == n) {
                    many += people ? voters[a / 4][a % 4] : 1;
                }
            }
            return many;
        }

        private long fairness(int l, int d, boolean people) {
            TreeSet<Long> all = new TreeSet<>();
            for (int n = 0; n < names[l][d]; n++) {
                all.add(ledBy(l, d, n, people));
            }
            return all.last() - all.first();
        }

        private Long askStyles(String call, int[] in) {
            int[] map = stylesOfAll();
            List<Integer> leasts = styleLeasts(on);
            int top = leasts.size() - 1;
            switch (call) {
                case "styles": return (long) leasts.size();
                case "border": return border(map);
                case "without": return is(in[0], 0, 3) ? (Long) without(in[0]) : null;
                case "odd": return is(in[0], 0, 1) ? (Long) odd(in[0], top) : null;
                case "rule": return is(in[0], 0, 1) ? (Long) bestRule(in[0], leasts) : null;
                default: break;
            }
            if (!is(in[0], 0, top)) {
                return null;
            }
            switch (call) {
                case "style": return is(in[1], 0, 4) ? (Long) ofStyle(in[0], in[1]) : null;
                case "beside": return is(in[1], 0, top) && in[0] != in[1] ? (Long) beside(map, in[0], in[1]) : null;
                case "unlike": return is(in[1], 0, top) ? (Long) unlike(leasts.get(in[0]), leasts.get(in[1])) : null;
                case "faces": return (long) sheets(leasts.get(in[0]), paper[2]);
                case "contest": return contest(leasts.get(in[0]), in[1], in[2]);
                default: return is(in[1], 0, 1) ? (Long) room(in[0], in[1], leasts) : null;
            }
        }

        private static boolean sideBySide(int a, int b) {
            return Math.abs(a / 4 - b / 4) + Math.abs(a % 4 - b % 4) == 1;
        }

        private static long border(int[] map) {
            long many = 0;
            for (int a = 0; a < 24; a++) {
                for (int b = 0; b < a; b++) {
                    many += sideBySide(a, b) && map[a] != map[b] ? 1 : 0;
                }
            }
            return many;
        }

        private static long beside(int[] map, int s, int o) {
            long many = 0;
            for (int a = 0; a < 24; a++) {
                for (int b = 0; b < 24; b++) {
                    many += sideBySide(a, b) && map[a] == s && map[b] == o ? 1 : 0;
                }
            }
            return many;
        }

        private long without(int l) {
            boolean[] layers = on.clone();
            layers[l] = !layers[l];
            return styleLeasts(layers).size();
        }

        private long unlike(int a, int b) {
            long many = 0;
            for (int l = 0; l < 4; l++) {
                many += on[l] && at(l, a) != at(l, b) ? 1 : 0;
            }
            return many;
        }

        private long odd(int what, int top) {
            int best = 0;
            for (int s = 1; s <= top; s++) {
                if (what == 0 ? ofStyle(s, 1) < ofStyle(best, 1) : ofStyle(s, 2) > ofStyle(best, 2)) {
                    best = s;
                }
            }
            return best;
        }

        private long ofStyle(int s, int what) {
            int[] map = stylesOfAll();
            List<Integer> blocks = new ArrayList<>();
            long people = 0;
            for (int a = 0; a < 24; a++) {
                if (map[a] == s) {
                    blocks.add(a);
                    people += voters[a / 4][a % 4];
                }
            }
            switch (what) {
                case 0: return blocks.size();
                case 1: return people;
                case 2: return parts(blocks);
                case 3: return key(0, on).replace("-", "").length();
                default: return blocks.get(0);
            }
        }

        /** Each block takes the least mark beside it until nothing moves: one mark is left a part. */
        private static long parts(List<Integer> blocks) {
            int[] marks = new int[24];
            for (int a = 0; a < 24; a++) {
                marks[a] = a;
            }
            for (int round = 0; round < 24; round++) {
                for (int a : blocks) {
                    for (int b : blocks) {
                        if (sideBySide(a, b)) {
                            marks[a] = Math.min(marks[a], marks[b]);
                        }
                    }
                }
            }
            return blocks.stream().map(a -> marks[a]).distinct().count();
        }

        private List<int[]> contests(int a) {
            List<int[]> all = new ArrayList<>();
            for (int l = 0; l < 4; l++) {
                if (on[l]) {
                    all.add(new int[] {l, at(l, a), 2 + names[l][at(l, a)]});
                }
            }
            return all;
        }

        /** What lies in which column, each column a list of heights; null: bare. */
        private List<List<Integer>> lay(int a, int rule, List<Integer> columnsOf) {
            List<List<Integer>> columns = new ArrayList<>();
            int last = 0;
            newSheet(columns);
            for (int[] contest : contests(a)) {
                int height = contest[2];
                if (height > paper[1]) {
                    return null;
                }
                int chosen = -1;
                for (int c = 0; c < columns.size(); c++) {
                    int left = left(columns.get(c));
                    if (left < height || rule == 0 && c != last && (c != last + 1 || c / paper[0] != last / paper[0])) {
                        continue;
                    }
                    int best = chosen < 0 ? 0 : left(columns.get(chosen));
                    if (chosen < 0 || rule == 2 && left < best || rule == 3 && left > best) {
                        chosen = c;
                    }
                }
                if (chosen < 0) {
                    chosen = columns.size();
                    newSheet(columns);
                }
                columns.get(chosen).add(height);
                columnsOf.add(chosen);
                last = chosen;
            }
            return columns;
        }

        private void newSheet(List<List<Integer>> columns) {
            for (int c = 0; c < paper[0]; c++) {
                columns.add(new ArrayList<>());
            }
        }

        private int left(List<Integer> column) {
            return paper[1] - column.stream().mapToInt(h -> h).sum();
        }

        private int sheets(int a, int rule) {
            List<List<Integer>> columns = lay(a, rule, new ArrayList<>());
            return columns == null ? 0 : columns.size() / paper[0];
        }

        private Long contest(int a, int k, int what) {
            if (k < 0 || !is(what, 0, 3)) {
                return null;
            }
            List<int[]> all = contests(a);
            if (k >= all.size()) {
                return -1L;
            }
            if (what < 3) {
                return (long) all.get(k)[what];
            }
            List<Integer> columnsOf = new ArrayList<>();
            return lay(a, paper[2], columnsOf) == null ? -1L : (long) columnsOf.get(k);
        }

        private long room(int s, int what, List<Integer> leasts) {
            if (what == 1) {
                return sheetsOfAll(leasts, paper[2]);
            }
            List<List<Integer>> columns = lay(leasts.get(s), paper[2], new ArrayList<>());
            return columns == null ? -1 : columns.stream().mapToInt(this::left).sum();
        }

        private long sheetsOfAll(List<Integer> leasts, int rule) {
            long all = 0;
            for (int s = 0; s < leasts.size(); s++) {
                all += ofStyle(s, 1) * sheets(leasts.get(s), rule);
            }
            return all;
        }

        private long bestRule(int what, List<Integer> leasts) {
            if (leasts.stream().anyMatch(a -> sheets(a, 0) == 0)) {
                return -3;
            }
            int best = 0;
            for (int r = 1; r < 4; r++) {
                if (sheetsOfAll(leasts, r) < sheetsOfAll(leasts, best)) {
                    best = r;
                }
            }
            return what == 0 ? best : sheetsOfAll(leasts, best);
        }

        private long digest() {
            List<Long> all = new ArrayList<>();
            for (int i = 0; i < 9; i++) {
                all.add(told(i));
            }
            for (int a = 0; a < 24; a++) {
                all.add((long) voters[a / 4][a % 4]);
                for (int l = 0; l < 4; l++) {
                    all.add((long) at(l, a));
                }
            }
            for (int[] row : names) {
                for (int n : row) {
                    all.add((long) n);
                }
            }
            List<Integer> leasts = styleLeasts(on);
            all.add((long) leasts.size());
            all.add(border(stylesOfAll()));
            for (int a : leasts) {
                all.add((long) sheets(a, paper[2]));
            }
            long h = 2027;
            for (long v : all) {
                h = 31 * h + v;
            }
            return h;
        }
    }
}

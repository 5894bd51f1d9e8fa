public final class StylePapers {
    public static final int NONE = -1, BAD = -2, NO = -3, FULL = -4;

    private static final int WIDTH = 4;
    private static final int BLOCKS = 24;
    private static final int LAYERS = 4;
    private static final int DISTRICTS = 6;
    private static final int MOST_NAMES = 8;
    private static final int MOST_VOTERS = 99;
    private static final int MOST_SEED = 999999;
    private static final int MOST_COLUMNS = 3;
    private static final int LEAST_DEPTH = 4;
    private static final int MOST_DEPTH = 30;
    private static final int RULES = 4;
    private static final int COUNTERS = 9;
    private static final int FAULT_BASE = -10;

    private final Town town = new Town();
    private final Past past = new Past();
    private final StyleMap map = new StyleMap();
    private final Paper sheet = new Paper();
    private final Script script = new Script();
    private int timesBad = 0;
    private int timesNo = 0;
    private int timesFull = 0;

    public StylePapers() {
    }

    // ---- the town

    public int on(int l, int to) {
        if (!isLayer(l) || !within(to, 0, 1)) {
            return refuseBad();
        }
        past.keep(town);
        return town.switchLayer(l, to);
    }

    public int puts(int l, int d, int a, int b) {
        if (!isLayer(l) || !isDistrict(d) || !isRectangle(a, b)) {
            return refuseBad();
        }
        past.keep(town);
        return town.putRectangle(l, d, a, b);
    }

    public int names(int l, int d, int n) {
        if (!isLayer(l) || !isDistrict(d) || !within(n, 1, MOST_NAMES)) {
            return refuseBad();
        }
        past.keep(town);
        return town.setNames(l, d, n);
    }

    public int voters(int a, int n) {
        if (!isBlock(a) || !within(n, 0, MOST_VOTERS)) {
            return refuseBad();
        }
        past.keep(town);
        return town.setVoters(a, n);
    }

    public int draw(int l, int seed, int n) {
        if (!isLayer(l) || !within(seed, 0, MOST_SEED) || !within(n, 1, DISTRICTS)) {
            return refuseBad();
        }
        past.keep(town);
        return town.drawLayer(l, seed, n);
    }

    public int follows(int l, int way, int k) {
        if (!isLayer(l) || !within(way, 0, 3) || !isLayer(k)) {
            return refuseBad();
        }
        return town.followMap(past.keep(town), l, way, k);
    }

    public int undo() {
        if (past.count == 0) {
            return refuseNo();
        }
        return past.takeBack(town);
    }

    public int of(int a, int what) {
        if (!isBlock(a) || !within(what, 0, LAYERS + 1)) {
            return refuseBad();
        }
        if (what == 0) {
            return town.people[a];
        }
        if (what == 1) {
            sortStyles();
            return map.styleOf[a];
        }
        return town.districtOf(what - 2, a);
    }

    // ---- words

    public int type(int c) {
        if (!within(c, 0, 127)) {
            return refuseBad();
        }
        if (script.isFull()) {
            return refuseFull();
        }
        return script.addByte(c);
    }

    public int clear() {
        return script.makeEmpty();
    }

    public int does() {
        int fault = script.readOrders();
        if (fault != NONE) {
            return FAULT_BASE - fault;
        }
        past.keep(town);
        for (int i = 0; i < script.count; i++) {
            script.carryOut(i, town);
        }
        return script.count;
    }

    // ---- styles

    public int styles() {
        sortStyles();
        return map.count;
    }

    public int style(int s, int what) {
        if (!isStyle(s)) {
            return refuseBad();
        }
        switch (what) {
            case 0:
                return map.blocksOf(s);
            case 1:
                return map.votersOf(s, town);
            case 2:
                return map.partsOf(s);
            case 3:
                return Integer.bitCount(town.layersOn);
            case 4:
                return map.leastOf[s];
            default:
                return refuseBad();
        }
    }

    public int without(int l) {
        if (!isLayer(l)) {
            return refuseBad();
        }
        map.sortBlocks(town, town.layersOn ^ (1 << l));
        return map.count;
    }

    public int border() {
        sortStyles();
        return map.unlikePairs();
    }

    public int beside(int s, int o) {
        if (!isStyle(s) || !isStyle(o) || s == o) {
            return refuseBad();
        }
        return map.pairsOf(s, o);
    }

    public int unlike(int s, int o) {
        if (!isStyle(s) || !isStyle(o)) {
            return refuseBad();
        }
        int a = map.leastOf[s];
        int b = map.leastOf[o];
        int many = 0;
        for (int l = 0; l < LAYERS; l++) {
            if (town.isOn(l) && town.districtOf(l, a) != town.districtOf(l, b)) {
                many++;
            }
        }
        return many;
    }

    public int odd(int what) {
        if (!within(what, 0, 1)) {
            return refuseBad();
        }
        sortStyles();
        return what == 0 ? map.fewestVoters(town) : map.mostParts();
    }

    // ---- papers

    public int paper(int what, int v) {
        switch (what) {
            case 0:
                return within(v, 1, MOST_COLUMNS) ? sheet.setColumns(v) : refuseBad();
            case 1:
                return within(v, LEAST_DEPTH, MOST_DEPTH) ? sheet.setDepth(v) : refuseBad();
            case 2:
                return within(v, 0, RULES - 1) ? sheet.setRule(v) : refuseBad();
            default:
                return refuseBad();
        }
    }

    public int faces(int s) {
        if (!isStyle(s)) {
            return refuseBad();
        }
        return sheetsOf(s, sheet.rule);
    }

    public int contest(int s, int k, int what) {
        if (!isStyle(s) || k < 0 || !within(what, 0, 3)) {
            return refuseBad();
        }
        int a = map.leastOf[s];
        sheet.layContests(town, a, sheet.rule);
        if (k >= sheet.contests) {
            return NONE;
        }
        switch (what) {
            case 0:
                return sheet.layerOf[k];
            case 1:
                return town.districtOf(sheet.layerOf[k], a);
            case 2:
                return town.heightAt(sheet.layerOf[k], a);
            default:
                return sheet.bare ? NONE : sheet.columnOf[k];
        }
    }

    public int room(int s, int what) {
        if (!isStyle(s) || !within(what, 0, 1)) {
            return refuseBad();
        }
        if (what == 1) {
            return sheetsOfAll(sheet.rule);
        }
        sheet.layContests(town, map.leastOf[s], sheet.rule);
        return sheet.bare ? NONE : sheet.roomLeft();
    }

    public int rule(int what) {
        if (!within(what, 0, 1)) {
            return refuseBad();
        }
        sortStyles();
        if (hasBareStyle()) {
            return refuseNo();
        }
        int best = 0;
        int fewest = sheetsOfAll(0);
        for (int r = 1; r < RULES; r++) {
            int many = sheetsOfAll(r);
            if (many < fewest) {
                best = r;
                fewest = many;
            }
        }
        return what == 0 ? best : fewest;
    }

    // ---- names

    public int leads(int a, int l) {
        if (!isBlock(a) || !isLayer(l)) {
            return refuseBad();
        }
        return town.isOn(l) ? town.leaderIn(l, a) : NONE;
    }

    public int lead(int l, int d, int n) {
        if (!isLayer(l) || !isDistrict(d) || !isName(n)) {
            return refuseBad();
        }
        return n < town.namesOf(l, d) ? town.ledBy(l, d, n, true) : NONE;
    }

    public int fair(int l, int d, int what) {
        if (!isLayer(l) || !isDistrict(d) || !within(what, 0, 1)) {
            return refuseBad();
        }
        int most = town.ledBy(l, d, 0, what == 1);
        int fewest = most;
        for (int n = 1; n < town.namesOf(l, d); n++) {
            int many = town.ledBy(l, d, n, what == 1);
            most = Math.max(most, many);
            fewest = Math.min(fewest, many);
        }
        return most - fewest;
    }

    public int place(int a, int l, int n) {
        if (!isBlock(a) || !isLayer(l) || !isName(n)) {
            return refuseBad();
        }
        int many = town.namesOf(l, town.districtOf(l, a));
        if (!town.isOn(l) || n >= many) {
            return NONE;
        }
        int behind = n - town.leaderIn(l, a);
        return behind < 0 ? behind + many : behind;
    }

    public int told(int what) {
        return within(what, 0, COUNTERS - 1) ? counter(what) : refuseBad();
    }

    public long digest() {
        long h = 2027;
        for (int i = 0; i < COUNTERS; i++) {
            h = 31 * h + counter(i);
        }
        for (int a = 0; a < BLOCKS; a++) {
            h = 31 * h + town.people[a];
            for (int l = 0; l < LAYERS; l++) {
                h = 31 * h + town.districtOf(l, a);
            }
        }
        for (int l = 0; l < LAYERS; l++) {
            for (int d = 0; d < DISTRICTS; d++) {
                h = 31 * h + town.namesOf(l, d);
            }
        }
        sortStyles();
        h = 31 * h + map.count;
        h = 31 * h + map.unlikePairs();
        for (int s = 0; s < map.count; s++) {
            h = 31 * h + sheetsOf(s, sheet.rule);
        }
        return h;
    }

    private int counter(int what) {
        switch (what) {
            case 0:
                return timesBad;
            case 1:
                return timesNo;
            case 2:
                return timesFull;
            case 3:
                return script.length;
            case 4:
                return sheet.columns;
            case 5:
                return sheet.depth;
            case 6:
                return sheet.rule;
            case 7:
                return town.layersOn;
            default:
                return past.count;
        }
    }

    private int refuseBad() {
        timesBad++;
        return BAD;
    }

    private int refuseNo() {
        timesNo++;
        return NO;
    }

    private int refuseFull() {
        timesFull++;
        return FULL;
    }

    private static boolean within(int v, int low, int high) {
        return v >= low && v <= high;
    }

    private static boolean isLayer(int l) {
        return within(l, 0, LAYERS - 1);
    }

    private static boolean isDistrict(int d) {
        return within(d, 0, DISTRICTS - 1);
    }

    private static boolean isBlock(int a) {
        return within(a, 0, BLOCKS - 1);
    }

    private static boolean isName(int n) {
        return within(n, 0, MOST_NAMES - 1);
    }

    private static boolean isRectangle(int a, int b) {
        return isBlock(a) && isBlock(b) && a / WIDTH <= b / WIDTH && a % WIDTH <= b % WIDTH;
    }

    // Leaves the styles sorted, so that a caller may use them at once.
    private boolean isStyle(int s) {
        sortStyles();
        return within(s, 0, map.count - 1);
    }

    private void sortStyles() {
        map.sortBlocks(town, town.layersOn);
    }

    // The styles must be sorted ahead of this, as of the two below.
    private int sheetsOf(int s, int rule) {
        sheet.layContests(town, map.leastOf[s], rule);
        return sheet.bare ? 0 : sheet.sheets;
    }

    private int sheetsOfAll(int rule) {
        int many = 0;
        for (int s = 0; s < map.count; s++) {
            many += map.votersOf(s, town) * sheetsOf(s, rule);
        }
        return many;
    }

    private boolean hasBareStyle() {
        for (int s = 0; s < map.count; s++) {
            if (sheetsOf(s, 0) == 0) {
                return true;
            }
        }
        return false;
    }

    /** All that an edit can change, and so all that is kept for taking it back. */
    private static final class Town {
        private final int[] people = new int[BLOCKS];
        private final int[] districts = new int[LAYERS * BLOCKS];
        private final int[] nameCounts = new int[LAYERS * DISTRICTS];
        private int layersOn = 1;

        Town() {
            for (int a = 0; a < BLOCKS; a++) {
                people[a] = 1;
            }
            for (int i = 0; i < LAYERS * DISTRICTS; i++) {
                nameCounts[i] = 2;
            }
        }

        void copyFrom(Town other) {
            System.arraycopy(other.people, 0, people, 0, BLOCKS);
            System.arraycopy(other.districts, 0, districts, 0, LAYERS * BLOCKS);
            System.arraycopy(other.nameCounts, 0, nameCounts, 0, LAYERS * DISTRICTS);
            layersOn = other.layersOn;
        }

        boolean isOn(int l) {
            return (layersOn >> l & 1) == 1;
        }

        int districtOf(int l, int a) {
            return districts[l * BLOCKS + a];
        }

        int namesOf(int l, int d) {
            return nameCounts[l * DISTRICTS + d];
        }

        int heightAt(int l, int a) {
            return 2 + namesOf(l, districtOf(l, a));
        }

        int switchLayer(int l, int to) {
            int was = layersOn >> l & 1;
            layersOn = to == 1 ? layersOn | 1 << l : layersOn & ~(1 << l);
            return was == to ? 0 : 1;
        }

        int setNames(int l, int d, int n) {
            int was = nameCounts[l * DISTRICTS + d];
            nameCounts[l * DISTRICTS + d] = n;
            return was;
        }

        int setVoters(int a, int n) {
            int was = people[a];
            people[a] = n;
            return was;
        }

        // Answers 1 if the block was of another district, so that callers can sum.
        int setDistrict(int l, int a, int d) {
            int was = districts[l * BLOCKS + a];
            districts[l * BLOCKS + a] = d;
            return was == d ? 0 : 1;
        }

        int putRectangle(int l, int d, int a, int b) {
            int many = 0;
            for (int r = a / WIDTH; r <= b / WIDTH; r++) {
                for (int c = a % WIDTH; c <= b % WIDTH; c++) {
                    many += setDistrict(l, WIDTH * r + c, d);
                }
            }
            return many;
        }

        int drawLayer(int l, int seed, int n) {
            long x = seed;
            int all = 0;
            for (int a = 0; a < BLOCKS; a++) {
                x = (x * 1103515245L + 12345L) % 2147483648L;
                setDistrict(l, a, (int) (x / 65536 % n));
                people[a] = (int) (x / 1024 % 30);
                all += people[a];
            }
            return all;
        }

        // Reads the town as it was ahead of the edit: a turned map overwrites itself.
        int followMap(Town was, int l, int way, int k) {
            int many = 0;
            for (int a = 0; a < BLOCKS; a++) {
                many += setDistrict(l, a, followed(was, l, way, k, a));
            }
            return many;
        }

        private static int followed(Town was, int l, int way, int k, int a) {
            int column = a % WIDTH;
            switch (way) {
                case 0:
                    return was.districtOf(k, a);
                case 1:
                    return was.districtOf(l, a - column + WIDTH - 1 - column);
                case 2:
                    return was.districtOf(l, BLOCKS - WIDTH - (a - column) + column);
                default:
                    return Math.max(was.districtOf(l, a), was.districtOf(k, a));
            }
        }

        int leaderIn(int l, int a) {
            int d = districtOf(l, a);
            int leader = 0;
            for (int b = 0; b < a; b++) {
                if (districtOf(l, b) == d) {
                    leader = nextLeader(l, d, leader);
                }
            }
            return leader;
        }

        private int nextLeader(int l, int d, int leader) {
            return leader + 1 < namesOf(l, d) ? leader + 1 : 0;
        }

        // Of the blocks of district d where name n leads: their voters, or how many they are.
        int ledBy(int l, int d, int n, boolean byVoters) {
            int many = 0;
            int leader = 0;
            for (int a = 0; a < BLOCKS; a++) {
                if (districtOf(l, a) == d) {
                    if (leader == n) {
                        many += byVoters ? people[a] : 1;
                    }
                    leader = nextLeader(l, d, leader);
                }
            }
            return many;
        }
    }

    /** The towns ahead of the last edits, in a ring: the oldest is overwritten. */
    private static final class Past {
        private static final int MOST = 8;
        private final Town[] kept = new Town[MOST];
        private int next = 0;
        private int count = 0;

        Past() {
            for (int i = 0; i < MOST; i++) {
                kept[i] = new Town();
            }
        }

        Town keep(Town town) {
            Town copy = kept[next];
            copy.copyFrom(town);
            next = (next + 1) % MOST;
            count = Math.min(count + 1, MOST);
            return copy;
        }

        int takeBack(Town town) {
            if (count > 0) {
                next = (next + MOST - 1) % MOST;
                count--;
                town.copyFrom(kept[next]);
            }
            return count;
        }
    }

    /** Which block is of which style; sorted anew ahead of each use. */
    private static final class StyleMap {
        private final int[] keys = new int[BLOCKS];
        private final int[] styleOf = new int[BLOCKS];
        private final int[] leastOf = new int[BLOCKS];
        private final int[] queue = new int[BLOCKS];
        private final boolean[] seen = new boolean[BLOCKS];
        private int count = 0;

        void sortBlocks(Town town, int layers) {
            count = 0;
            for (int a = 0; a < BLOCKS; a++) {
                keys[a] = keyOf(town, layers, a);
                int s = styleWithKey(keys[a]);
                if (s == count) {
                    leastOf[s] = a;
                    count++;
                }
                styleOf[a] = s;
            }
        }

        private static int keyOf(Town town, int layers, int a) {
            int key = 0;
            for (int l = 0; l < LAYERS; l++) {
                if ((layers >> l & 1) == 1) {
                    key = key * DISTRICTS + town.districtOf(l, a);
                }
            }
            return key;
        }

        // The count of styles, if there is none yet.
        private int styleWithKey(int key) {
            for (int s = 0; s < count; s++) {
                if (keys[leastOf[s]] == key) {
                    return s;
                }
            }
            return count;
        }

        int blocksOf(int s) {
            int many = 0;
            for (int a = 0; a < BLOCKS; a++) {
                if (styleOf[a] == s) {
                    many++;
                }
            }
            return many;
        }

        int votersOf(int s, Town town) {
            int many = 0;
            for (int a = 0; a < BLOCKS; a++) {
                if (styleOf[a] == s) {
                    many += town.people[a];
                }
            }
            return many;
        }

        int partsOf(int s) {
            for (int a = 0; a < BLOCKS; a++) {
                seen[a] = styleOf[a] != s;
            }
            int parts = 0;
            for (int a = 0; a < BLOCKS; a++) {
                if (!seen[a]) {
                    parts++;
                    visitPart(a);
                }
            }
            return parts;
        }

        private void visitPart(int from) {
            int tail = 1;
            queue[0] = from;
            seen[from] = true;
            for (int head = 0; head < tail && head < BLOCKS; head++) {
                for (int side = 0; side < 4; side++) {
                    int b = neighbour(queue[head], side);
                    if (b != NONE && !seen[b] && tail < BLOCKS) {
                        seen[b] = true;
                        queue[tail] = b;
                        tail++;
                    }
                }
            }
        }

        // Sides 0 right, 1 below, 2 left, 3 above: 0 and 1 alone meet each pair once.
        private static int neighbour(int a, int side) {
            int column = a % WIDTH;
            switch (side) {
                case 0:
                    return column < WIDTH - 1 ? a + 1 : NONE;
                case 1:
                    return a < BLOCKS - WIDTH ? a + WIDTH : NONE;
                case 2:
                    return column > 0 ? a - 1 : NONE;
                default:
                    return a >= WIDTH ? a - WIDTH : NONE;
            }
        }

        int unlikePairs() {
            int many = 0;
            for (int a = 0; a < BLOCKS; a++) {
                for (int side = 0; side < 2; side++) {
                    int b = neighbour(a, side);
                    if (b != NONE && styleOf[a] != styleOf[b]) {
                        many++;
                    }
                }
            }
            return many;
        }

        int pairsOf(int s, int o) {
            int many = 0;
            for (int a = 0; a < BLOCKS; a++) {
                for (int side = 0; side < 2; side++) {
                    int b = neighbour(a, side);
                    if (b != NONE && arePair(styleOf[a], styleOf[b], s, o)) {
                        many++;
                    }
                }
            }
            return many;
        }

        private static boolean arePair(int x, int y, int s, int o) {
            return x == s && y == o || x == o && y == s;
        }

        int fewestVoters(Town town) {
            int best = 0;
            int fewest = votersOf(0, town);
            for (int s = 1; s < count; s++) {
                int many = votersOf(s, town);
                if (many < fewest) {
                    best = s;
                    fewest = many;
                }
            }
            return best;
        }

        int mostParts() {
            int best = 0;
            int most = partsOf(0);
            for (int s = 1; s < count; s++) {
                int many = partsOf(s);
                if (many > most) {
                    best = s;
                    most = many;
                }
            }
            return best;
        }
    }

    /** What a paper is like, and how the contests of the style that was laid last lie on it. */
    private static final class Paper {
        private int columns = 2;
        private int depth = 12;
        private int rule = 0;

        // Each sheet but the first is begun for a contest: there are no more sheets than layers.
        private final int[] room = new int[LAYERS * MOST_COLUMNS];
        private final int[] layerOf = new int[LAYERS];
        private final int[] columnOf = new int[LAYERS];
        private int contests = 0;
        private int sheets = 0;
        private int last = 0;
        private boolean bare = false;

        int setColumns(int v) {
            int was = columns;
            columns = v;
            return was;
        }

        int setDepth(int v) {
            int was = depth;
            depth = v;
            return was;
        }

        int setRule(int v) {
            int was = rule;
            rule = v;
            return was;
        }

        void layContests(Town town, int block, int byRule) {
            contests = 0;
            sheets = 0;
            last = 0;
            bare = false;
            beginSheet();
            for (int l = 0; l < LAYERS; l++) {
                if (town.isOn(l)) {
                    layerOf[contests] = l;
                    layOne(town.heightAt(l, block), byRule);
                    contests++;
                }
            }
        }

        private void layOne(int height, int byRule) {
            if (height > depth) {
                bare = true;
            }
            if (bare) {
                return;
            }
            int column = columnFor(height, byRule);
            if (column == NONE) {
                column = sheets * columns;
                beginSheet();
            }
            room[column] -= height;
            columnOf[contests] = column;
            last = column;
        }

        private void beginSheet() {
            for (int c = 0; c < columns; c++) {
                room[sheets * columns + c] = depth;
            }
            sheets++;
        }

        private int columnFor(int height, int byRule) {
            switch (byRule) {
                case 0:
                    return nextColumn(height);
                case 1:
                    return firstColumn(height);
                case 2:
                    return tightColumn(height);
                default:
                    return looseColumn(height);
            }
        }

        // NEXT never goes back: its last column is on the last sheet, and so is the one behind it.
        private int nextColumn(int height) {
            for (int c = last; c <= last + 1 && c < sheets * columns; c++) {
                if (room[c] >= height) {
                    return c;
                }
            }
            return NONE;
        }

        private int firstColumn(int height) {
            for (int c = 0; c < sheets * columns; c++) {
                if (room[c] >= height) {
                    return c;
                }
            }
            return NONE;
        }

        private int tightColumn(int height) {
            int best = NONE;
            for (int c = 0; c < sheets * columns; c++) {
                if (room[c] >= height && (best == NONE || room[c] < room[best])) {
                    best = c;
                }
            }
            return best;
        }

        private int looseColumn(int height) {
            int best = NONE;
            for (int c = 0; c < sheets * columns; c++) {
                if (room[c] >= height && (best == NONE || room[c] > room[best])) {
                    best = c;
                }
            }
            return best;
        }

        int roomLeft() {
            int left = 0;
            for (int c = 0; c < sheets * columns; c++) {
                left += room[c];
            }
            return left;
        }
    }

    /** The text, and the orders that it tells. */
    private static final class Script {
        private static final int MOST_BYTES = 120;
        private static final int BLANK = 32;
        private static final int SEMICOLON = 59;

        // The shortest order, on0; has four bytes.
        private static final int MOST_ORDERS = 30;
        private static final int MOST_NUMBERS = 4;
        private static final int ROW = 1 + MOST_NUMBERS;

        private static final int ON = 0;
        private static final int OFF = 1;
        private static final int PUT = 2;
        private static final int NAMES = 3;
        private static final int VOTERS = 4;
        private static final int WORDS = 5;

        // By orders: how many numbers, and of each the greatest and the least.
        private static final int[] NUMBERS = {1, 1, 4, 3, 2};
        private static final int[] GREATEST = {
            3, 0, 0, 0,
            3, 0, 0, 0,
            3, 5, 23, 23,
            3, 5, 8, 0,
            23, 99, 0, 0,
        };
        private static final int[] LEAST = {
            0, 0, 0, 0,
            0, 0, 0, 0,
            0, 0, 0, 0,
            0, 0, 1, 0,
            0, 0, 0, 0,
        };

        private static final int AT_END = 0;
        private static final int AT_WORD = 1;
        private static final int AT_NUMBER = 2;
        private static final int AT_SIGN = 3;

        private final byte[] bytes = new byte[MOST_BYTES];
        private int length = 0;

        private final int[] orders = new int[MOST_ORDERS * ROW];
        private int count = 0;

        private int kind = AT_END;
        private int start = 0;
        private int behind = 0;

        boolean isFull() {
            return length >= MOST_BYTES;
        }

        int addByte(int c) {
            if (!isFull()) {
                bytes[length] = (byte) c;
                length++;
            }
            return length;
        }

        int makeEmpty() {
            int was = length;
            length = 0;
            return was;
        }

        // Answers the place of the fault, or NONE.
        int readOrders() {
            count = 0;
            behind = 0;
            readPiece();
            do {
                int fault = readOrder();
                if (fault != NONE) {
                    return fault;
                }
                count++;
                readPiece();
            } while (kind != AT_END && count < MOST_ORDERS);
            return NONE;
        }

        // Begins at the order's word, ends at its semicolon.
        private int readOrder() {
            int order = kind == AT_WORD ? orderHere() : NONE;
            if (order == NONE) {
                return start;
            }
            int row = count * ROW;
            orders[row] = order;
            for (int i = 0; i < NUMBERS[order]; i++) {
                readPiece();
                if (kind != AT_NUMBER) {
                    return start;
                }
                orders[row + 1 + i] = numberHere();
                if (!isAsTold(row, i)) {
                    return start;
                }
            }
            readPiece();
            return kind == AT_SIGN && bytes[start] == SEMICOLON ? NONE : start;
        }

        private boolean isAsTold(int row, int i) {
            int order = orders[row];
            int at = order * MOST_NUMBERS + i;
            if (!within(orders[row + 1 + i], LEAST[at], GREATEST[at])) {
                return false;
            }
            return order != PUT || i != 3 || isRectangle(orders[row + 3], orders[row + 4]);
        }

        // The next word, number or sign: from start to the byte ahead of behind.
        private void readPiece() {
            start = behind;
            while (start < length && bytes[start] == BLANK) {
                start++;
            }
            behind = start;
            if (start >= length) {
                kind = AT_END;
            } else if (isLetter(bytes[start])) {
                kind = AT_WORD;
                while (behind < length && isLetter(bytes[behind])) {
                    behind++;
                }
            } else if (isFigure(bytes[start])) {
                kind = AT_NUMBER;
                while (behind < length && isFigure(bytes[behind])) {
                    behind++;
                }
            } else {
                kind = AT_SIGN;
                behind++;
            }
        }

        private static boolean isLetter(int c) {
            return within(c, 'a', 'z');
        }

        private static boolean isFigure(int c) {
            return within(c, '0', '9');
        }

        private int orderHere() {
            for (int order = 0; order < WORDS; order++) {
                if (isHere(wordOf(order))) {
                    return order;
                }
            }
            return NONE;
        }

        private static String wordOf(int order) {
            switch (order) {
                case ON:
                    return "on";
                case OFF:
                    return "off";
                case PUT:
                    return "put";
                case NAMES:
                    return "names";
                default:
                    return "voters";
            }
        }

        private boolean isHere(String word) {
            if (word.length() != behind - start) {
                return false;
            }
            for (int i = 0; i < word.length(); i++) {
                if (word.charAt(i) != bytes[start + i]) {
                    return false;
                }
            }
            return true;
        }

        // NONE, which is no number of any order, if there are three figures or more.
        private int numberHere() {
            if (behind - start > 2) {
                return NONE;
            }
            int number = 0;
            for (int i = start; i < behind; i++) {
                number = 10 * number + bytes[i] - '0';
            }
            return number;
        }

        void carryOut(int i, Town town) {
            int row = i * ROW;
            int first = orders[row + 1];
            int second = orders[row + 2];
            switch (orders[row]) {
                case ON:
                    town.switchLayer(first, 1);
                    break;
                case OFF:
                    town.switchLayer(first, 0);
                    break;
                case PUT:
                    town.putRectangle(first, second, orders[row + 3], orders[row + 4]);
                    break;
                case NAMES:
                    town.setNames(first, second, orders[row + 3]);
                    break;
                default:
                    town.setVoters(first, second);
                    break;
            }
        }
    }
}

import java.util.Arrays;

/**
 * A loaf that falls: a loaf by layers, gone through turn by turn by a flour and a baker's doing; why it
 * fell, what to change, and the law of a flour by slips of paper with heights.
 */
public final class LoafFall {
    public static final int BAD = -1, FULL = -2, FINDING = -3, STATE = -4, SPENT = -6, NONE = -9;

    private static final int NOTHING = 1, BEYOND = 2, UNLIKE = 3, NOUGHT = 4, SIZE = 5;

    private static final int ROWS = 6, ROW_MOST = 40, TEXTS = 4, TEXT_MOST = 80;
    private static final int FLOURS = 4, DOINGS = 4, PLACES = 3, SLIPS = 12, SLIP_MOST = 999;
    private static final int MISSING = -1, BLANK = 32, NO_SIGN = 1000;

    private static final int YEAST = 0, STRONG = 1, SPROUT = 2, WET = 3, SALT = 4, PARTS = 5;
    private static final int[] PART_LETTERS = {'y', 's', 'e', 'w', 't'};
    private static final int[] PART_LEAST = {1, 10, 0, 0, 0};
    private static final int[] PART_MOST = {9, 99, 9, 9, 9};
    private static final int[] PART_USUAL = {3, 40, 1, 4, 2};

    private static final int REST = 1, OVEN = 2, KNEAD = 3, KNOCK = 4, DOOR = 5;
    private static final int[] STEP_LETTERS = {'r', 'o', 'k', 'x', 'd'};
    private static final int STEPS_MOST = 10, WARMTH_MOST = 9, LASTS_MOST = 30, TURNS_MOST = 90;
    private static final int LATEST_TURN = 99, TABLE_WARMTH = 2, TABLE_TURNS = 6, RESTS_MOST = 60;

    private static final int CELLS = 24, ABOVE = 2, CELL_FACTS = 5, FALL_FACTS = 4;
    private static final int FIRM = 50, SET_MOST = 99, STRETCH_MOST = 99;
    private static final int FALL = 0, OVERRIPE = 1, YOUNG = 2, KNOCKED = 3, UNDONE = 4, SPROUTED = 5, UNSALTED = 6;
    private static final int TORN = 1, STICKY = 2;

    private static final int COUNTS = 9, LAWS = 81, LAW_STRONGS = 9;
    private static final int OVEN_OFF_MOST = 2, RACKS = 5;
    private static final int[] RACK_OFFS = {0, -1, 1, -2, 2};

    private final Row[] rows = new Row[ROWS];
    private final Text[] texts = new Text[TEXTS];
    private final Flour[] flours = new Flour[FLOURS];
    private final Doing[] doings = new Doing[DOINGS];
    private final Loaf[] kept = new Loaf[PLACES];
    private final Loaf loaf = new Loaf();
    private final Slips slips = new Slips();
    private final Reader reader = new Reader();
    private final Baker baker = new Baker();
    private final Holes holeSearch = new Holes();
    private final Flour otherFlour = new Flour();
    private final Doing otherDoing = new Doing();
    private final Doing changedDoing = new Doing();
    private final int[] lawOffs = new int[LAWS];
    private final int[] lawHeights = new int[DOINGS];
    private final int[] findingCounts = new int[SIZE + 1];
    private int latestFinding;
    private int latestAsked;
    private long latestUpper;
    private long latestLower = 1;

    public LoafFall() {
        for (int r = 0; r < ROWS; r++) {
            rows[r] = new Row();
        }
        for (int t = 0; t < TEXTS; t++) {
            texts[t] = new Text();
        }
        for (int k = 0; k < FLOURS; k++) {
            flours[k] = new Flour();
        }
        for (int k = 0; k < DOINGS; k++) {
            doings[k] = new Doing();
        }
        for (int k = 0; k < PLACES; k++) {
            kept[k] = new Loaf();
        }
    }

    // ---- 1 rows, texts, flours, doings

    public int row(int r, int n) {
        if (!isRow(r) || n > ROW_MOST) {
            return BAD;
        }
        if (n < 0) {
            return found(SIZE);
        }
        rows[r].renew(n);
        return n;
    }

    public int lay(int r, int i, int v) {
        if (!isRow(r)) {
            return BAD;
        }
        int lack = lackOfPlace(r, i);
        if (lack != 0) {
            return found(lack);
        }
        int was = rows[r].places[i];
        rows[r].places[i] = v;
        return tell(was);
    }

    public int at(int r, int i) {
        if (!isRow(r)) {
            return BAD;
        }
        int lack = lackOfPlace(r, i);
        return lack != 0 ? found(lack) : tell(rows[r].places[i]);
    }

    public int tear(int r) {
        if (!isRow(r)) {
            return BAD;
        }
        if (!rows[r].isThere()) {
            return found(NOTHING);
        }
        rows[r].size = MISSING;
        return 1;
    }

    public int copy(int r, int i, int to, int j, int n) {
        if (!isRow(r) || !isRow(to)) {
            return BAD;
        }
        if (n < 0) {
            return found(SIZE);
        }
        if (!rows[r].isThere() || !rows[to].isThere()) {
            return found(NOTHING);
        }
        if (!rows[r].hasSpan(i, n) || !rows[to].hasSpan(j, n)) {
            return found(BEYOND);
        }
        System.arraycopy(rows[r].places, i, rows[to].places, j, n);
        return 1;
    }

    public int mean(int r) {
        if (!isRow(r)) {
            return BAD;
        }
        if (!rows[r].isThere()) {
            return found(NOTHING);
        }
        int size = rows[r].size;
        if (size == 0) {
            return found(NOUGHT);
        }
        long sum = 0;
        for (int i = 0; i < size; i++) {
            sum += rows[r].places[i];
        }
        return tell((int) (sum / size));
    }

    public int text(int t, int n) {
        if (!isText(t) || n > TEXT_MOST) {
            return BAD;
        }
        if (n < 0) {
            return found(SIZE);
        }
        texts[t].renew(n);
        return n;
    }

    public int put(int t, int i, int v) {
        if (!isText(t)) {
            return BAD;
        }
        if (!texts[t].isThere()) {
            return found(NOTHING);
        }
        if (!texts[t].has(i)) {
            return found(BEYOND);
        }
        int was = texts[t].bytes[i];
        texts[t].bytes[i] = (byte) v;
        return was + 1000;
    }

    public int fault(int t, boolean doing) {
        if (!isText(t)) {
            return BAD;
        }
        if (!texts[t].isThere()) {
            return found(NOTHING);
        }
        return doing ? reader.readDoing(texts[t]) : reader.readFlour(texts[t]);
    }

    public int flour(int k, int t) {
        if (!isFlour(k) || !isText(t)) {
            return BAD;
        }
        if (!texts[t].isThere()) {
            return found(NOTHING);
        }
        if (reader.readFlour(texts[t]) != NONE) {
            return STATE;
        }
        flours[k].take(reader.flourRead);
        return reader.itemsRead;
    }

    public int doing(int k, int t) {
        if (!isDoing(k) || !isText(t)) {
            return BAD;
        }
        if (!texts[t].isThere()) {
            return found(NOTHING);
        }
        if (reader.readDoing(texts[t]) != NONE) {
            return STATE;
        }
        doings[k].take(reader.doingRead);
        return doings[k].size;
    }

    public int about(int k, int what) {
        if (!isFlour(k) || what < 0 || what >= PARTS) {
            return BAD;
        }
        return flours[k].there ? tell(flours[k].parts[what]) : found(NOTHING);
    }

    public int step(int k, int i) {
        if (!isDoing(k)) {
            return BAD;
        }
        if (!doings[k].there) {
            return found(NOTHING);
        }
        if (i < 0 || i >= doings[k].size) {
            return found(BEYOND);
        }
        latestAsked = doings[k].warmthAndTurns(i);
        return doings[k].kinds[i];
    }

    // ---- 2 loaves

    public int loaf(int flour, int doing) {
        if (!isFlour(flour) || !isDoing(doing)) {
            return BAD;
        }
        if (!flours[flour].there || !doings[doing].there) {
            return found(NOTHING);
        }
        loaf.start(flours[flour], doings[doing]);
        return loaf.doing.turnsInAll();
    }

    public int go(int n) {
        if (n < 0 || n > LATEST_TURN) {
            return BAD;
        }
        if (!loaf.there) {
            return STATE;
        }
        if (loaf.dough.turn + n > LATEST_TURN) {
            return SPENT;
        }
        for (int i = 0; i < n; i++) {
            loaf.passTurn();
        }
        return loaf.dough.turn;
    }

    public int cell(int c, int what) {
        if (c < 0 || c >= CELLS || what < 0 || what >= CELL_FACTS) {
            return BAD;
        }
        return loaf.there ? tell(loaf.dough.factOf(c, what)) : STATE;
    }

    public int fall(int k, int what) {
        if (!isFall(k) || what < 0 || what >= FALL_FACTS) {
            return BAD;
        }
        return tell(loaf.falls.factOf(k, what));
    }

    public int mark(int k, int kind) {
        if (!isFall(k) || kind <= FALL || kind > UNSALTED) {
            return BAD;
        }
        if (!loaf.falls.isOfKind(k, kind)) {
            return found(UNLIKE);
        }
        if (kind == SPROUTED) {
            return loaf.flour.parts[SPROUT];
        }
        return kind == UNSALTED ? loaf.falls.cells[k] / 2 : loaf.falls.marks[k];
    }

    public int keep(int k) {
        if (!isPlace(k)) {
            return BAD;
        }
        if (!loaf.there) {
            return STATE;
        }
        kept[k].take(loaf);
        return loaf.dough.turn;
    }

    public int on(int k) {
        if (!isPlace(k)) {
            return BAD;
        }
        if (!kept[k].there) {
            return found(NOTHING);
        }
        loaf.take(kept[k]);
        return loaf.dough.turn;
    }

    public int height() {
        if (!loaf.there) {
            return STATE;
        }
        latestAsked = loaf.dough.worthNow();
        return loaf.dough.heightNow();
    }

    public int holes() {
        if (!loaf.there) {
            return STATE;
        }
        holeSearch.search(loaf.dough);
        latestAsked = holeSearch.greatest;
        return holeSearch.found;
    }

    public int cut(int r) {
        if (!isRow(r)) {
            return BAD;
        }
        if (!loaf.there) {
            return STATE;
        }
        rows[r].renew(CELLS);
        for (int c = 0; c < CELLS; c++) {
            rows[r].places[c] = loaf.dough.lookOf(c);
        }
        return loaf.dough.tornCells;
    }

    public int rests(int w) {
        if (!isWarmth(w)) {
            return BAD;
        }
        return loaf.there ? baker.restsOf(loaf, w) : STATE;
    }

    // ---- 3 why, changes

    public int why(int r) {
        if (!isRow(r)) {
            return BAD;
        }
        int lack = lackOfPairs(r);
        if (lack != 0) {
            return found(lack);
        }
        int best = NONE;
        int least = CELLS + 1;
        for (int pair = 0; pair < FLOURS * DOINGS; pair++) {
            int unlike = unlikeOfPair(pair, r);
            if (unlike < least) {
                least = unlike;
                best = 10 * (pair / DOINGS) + pair % DOINGS;
            }
        }
        latestAsked = least;
        return best;
    }

    public int odds(int r, int flour) {
        if (!isRow(r) || !isFlour(flour)) {
            return BAD;
        }
        int lack = lackOfPairs(r);
        if (lack != 0) {
            return found(lack);
        }
        int least = CELLS + 1;
        int pairs = 0;
        int ofFlour = 0;
        for (int pair = 0; pair < FLOURS * DOINGS; pair++) {
            int unlike = unlikeOfPair(pair, r);
            if (unlike < least) {
                least = unlike;
                pairs = 0;
                ofFlour = 0;
            }
            if (unlike == least && unlike <= CELLS) {
                pairs++;
                ofFlour += pair / DOINGS == flour ? 1 : 0;
            }
        }
        tellFraction(ofFlour, pairs);
        return pairs;
    }

    public int sprout(int flour, int doing, int r) {
        if (!isFlour(flour) || !isDoing(doing) || !isRow(r)) {
            return BAD;
        }
        int lack = lackOfPairAndCut(flour, doing, r);
        if (lack != 0) {
            return found(lack);
        }
        int best = NONE;
        int least = CELLS + 1;
        otherFlour.take(flours[flour]);
        for (int s = PART_LEAST[SPROUT]; s <= PART_MOST[SPROUT]; s++) {
            otherFlour.parts[SPROUT] = s;
            int unlike = baker.bake(otherFlour, doings[doing]).unlikeTo(rows[r]);
            if (unlike < least) {
                least = unlike;
                best = s;
            }
        }
        latestAsked = least;
        return best;
    }

    public int rack(int flour, int doing, int r) {
        if (!isFlour(flour) || !isDoing(doing) || !isRow(r)) {
            return BAD;
        }
        int lack = lackOfPairAndCut(flour, doing, r);
        if (lack != 0) {
            return found(lack);
        }
        int best = 0;
        int least = CELLS + 1;
        for (int i = 0; i < RACKS; i++) {
            otherDoing.take(doings[doing]);
            otherDoing.shiftOvens(RACK_OFFS[i]);
            int unlike = baker.bake(flours[flour], otherDoing).unlikeTo(rows[r]);
            if (unlike < least) {
                least = unlike;
                best = RACK_OFFS[i];
            }
        }
        latestAsked = least;
        return best + 5;
    }

    public int change() {
        if (!loaf.there) {
            return STATE;
        }
        int best = NONE;
        int bestWorth = MISSING;
        for (int one = 0; one < 10 * loaf.doing.size; one++) {
            if (!loaf.doing.allows(one)) {
                continue;
            }
            otherDoing.take(loaf.doing);
            otherDoing.changeBy(one);
            int worth = baker.bake(loaf.flour, otherDoing).worthNow();
            if (worth > bestWorth) {
                bestWorth = worth;
                best = one;
            }
        }
        if (best != NONE) {
            latestAsked = bestWorth;
        }
        return best;
    }

    public int changes() {
        if (!loaf.there) {
            return STATE;
        }
        int best = NONE;
        int bestWorth = MISSING;
        for (int one = 0; one < 10 * loaf.doing.size; one++) {
            if (!loaf.doing.allows(one)) {
                continue;
            }
            changedDoing.take(loaf.doing);
            changedDoing.changeBy(one);
            for (int other = 0; other < 10 * changedDoing.size; other++) {
                if (!changedDoing.allows(other)) {
                    continue;
                }
                otherDoing.take(changedDoing);
                otherDoing.changeBy(other);
                int worth = baker.bake(loaf.flour, otherDoing).worthNow();
                if (worth > bestWorth) {
                    bestWorth = worth;
                    best = 100 * one + other;
                }
            }
        }
        if (best != NONE) {
            latestAsked = bestWorth;
        }
        return best;
    }

    public int wide(int i) {
        if (i < 0 || i >= STEPS_MOST) {
            return BAD;
        }
        if (!loaf.there) {
            return STATE;
        }
        if (i >= loaf.doing.size) {
            return BAD;
        }
        if (!loaf.doing.lasts(i)) {
            return found(UNLIKE);
        }
        int least = NONE;
        int greatest = NONE;
        otherDoing.take(loaf.doing);
        for (int n = 1; n <= LASTS_MOST; n++) {
            if (!loaf.doing.mayLast(i, n)) {
                continue;
            }
            otherDoing.turns[i] = n;
            if (baker.bake(loaf.flour, otherDoing).tornCells == 0) {
                least = least == NONE ? n : least;
                greatest = n;
            }
        }
        if (least != NONE) {
            latestAsked = greatest;
        }
        return least;
    }

    public int flours(int doing) {
        if (!isDoing(doing)) {
            return BAD;
        }
        if (!doings[doing].there || countFlours() == 0) {
            return found(NOTHING);
        }
        int whole = 0;
        int best = 0;
        int bestWorth = MISSING;
        for (int k = 0; k < FLOURS; k++) {
            if (!flours[k].there) {
                continue;
            }
            Dough baked = baker.bake(flours[k], doings[doing]);
            int worth = baked.worthNow();
            whole |= baked.tornCells == 0 ? 1 << k : 0;
            if (worth > bestWorth) {
                bestWorth = worth;
                best = 0;
            }
            best |= worth == bestWorth ? 1 << k : 0;
        }
        latestAsked = best;
        return whole;
    }

    public int begin(int w) {
        if (!isWarmth(w)) {
            return BAD;
        }
        if (!loaf.there) {
            return STATE;
        }
        int first = loaf.doing.firstRest();
        if (first == NONE) {
            return found(UNLIKE);
        }
        int best = NONE;
        int bestWorth = MISSING;
        otherDoing.take(loaf.doing);
        otherDoing.warmRests(w);
        for (int n = 1; n <= LASTS_MOST; n++) {
            if (!loaf.doing.mayLast(first, n)) {
                continue;
            }
            otherDoing.turns[first] = n;
            int worth = baker.bake(loaf.flour, otherDoing).worthNow();
            if (worth > bestWorth) {
                bestWorth = worth;
                best = n;
            }
        }
        latestAsked = loaf.doing.turnsInAll() - loaf.doing.turns[first] + best;
        return best;
    }

    public int oven(int off) {
        if (off < -OVEN_OFF_MOST || off > OVEN_OFF_MOST) {
            return BAD;
        }
        if (!loaf.there) {
            return STATE;
        }
        int last = loaf.doing.lastOven();
        if (last == NONE) {
            return found(UNLIKE);
        }
        int own = baker.bake(loaf.flour, loaf.doing).worthNow();
        int best = NONE;
        int nearest = 0;
        otherDoing.take(loaf.doing);
        otherDoing.shiftOvens(off);
        for (int n = 1; n <= LASTS_MOST; n++) {
            if (!loaf.doing.mayLast(last, n)) {
                continue;
            }
            otherDoing.turns[last] = n;
            int far = Math.abs(baker.bake(loaf.flour, otherDoing).worthNow() - own);
            if (best == NONE || far < nearest) {
                nearest = far;
                best = n;
            }
        }
        latestAsked = nearest;
        return best;
    }

    public int even() {
        if (!loaf.there) {
            return STATE;
        }
        int first = loaf.doing.firstRest();
        if (first == NONE) {
            return found(UNLIKE);
        }
        int best = NONE;
        int fewest = CELLS + 1;
        otherDoing.take(loaf.doing);
        for (int w = 0; w <= WARMTH_MOST; w++) {
            otherDoing.warmths[first] = w;
            for (int n = 5; n <= LASTS_MOST; n += 5) {
                if (!loaf.doing.mayLast(first, n)) {
                    continue;
                }
                otherDoing.turns[first] = n;
                int spoiled = baker.bake(loaf.flour, otherDoing).spoiledCells();
                if (spoiled < fewest) {
                    fewest = spoiled;
                    best = 100 * w + n;
                }
            }
        }
        if (best != NONE) {
            latestAsked = fewest;
        }
        return best;
    }

    // ---- 4 slips

    public int slip(int doing, int height) {
        if (!isDoing(doing) || height < 0 || height > SLIP_MOST) {
            return BAD;
        }
        if (slips.size >= SLIPS) {
            return FULL;
        }
        slips.add(doing, height);
        return slips.size - 1;
    }

    public int told(int s, int what) {
        if (s < 0 || s >= slips.size || what < 0 || what > 1) {
            return BAD;
        }
        return tell(what == 0 ? slips.doings[s] : slips.heights[s]);
    }

    public int law(int flour) {
        if (!isFlour(flour)) {
            return BAD;
        }
        int lack = lackOfLaw(flour);
        if (lack != 0) {
            return found(lack);
        }
        int best = bestLaw(flour);
        latestAsked = lawOffs[best];
        return 100 * yeastOfLaw(best) + strongOfLaw(best);
    }

    public int spans(int flour, int v, int doing, boolean most) {
        if (!isFlour(flour) || v < 0 || v > SLIP_MOST || !isDoing(doing)) {
            return BAD;
        }
        int lack = doings[doing].there ? lackOfLaw(flour) : NOTHING;
        if (lack != 0) {
            return found(lack);
        }
        int bound = lawOffs[bestLaw(flour)] + v;
        int laws = 0;
        int height = 0;
        for (int l = 0; l < LAWS; l++) {
            if (lawOffs[l] > bound) {
                continue;
            }
            takeLaw(flour, l);
            int tall = baker.bake(otherFlour, doings[doing]).heightNow();
            if (laws == 0 || (most ? tall > height : tall < height)) {
                height = tall;
            }
            laws++;
        }
        latestAsked = height;
        return laws;
    }

    public int foretell(int flour, int doing) {
        if (!isFlour(flour) || !isDoing(doing)) {
            return BAD;
        }
        int lack = doings[doing].there ? lackOfLaw(flour) : NOTHING;
        if (lack != 0) {
            return found(lack);
        }
        takeLaw(flour, bestLaw(flour));
        Dough baked = baker.bake(otherFlour, doings[doing]);
        latestAsked = baked.worthNow();
        return baked.heightNow();
    }

    // ---- 5 what is told

    public int asked() {
        return latestAsked;
    }

    public long upper() {
        return latestUpper;
    }

    public long lower() {
        return latestLower;
    }

    public int count(int what) {
        return switch (what) {
            case 0 -> countFlours();
            case 1 -> countDoings();
            case 2 -> loaf.dough.turn;
            case 3 -> loaf.dough.tornCells;
            case 4 -> loaf.countUndone();
            case 5 -> countKept();
            case 6 -> slips.size;
            case 7 -> countRows();
            case 8 -> countTexts();
            default -> BAD;
        };
    }

    public int finding() {
        return latestFinding;
    }

    public int findings(int f) {
        return f < NOTHING || f > SIZE ? BAD : findingCounts[f];
    }

    public long digest() {
        long h = 17;
        for (int what = 0; what < COUNTS; what++) {
            h = 31 * h + count(what);
        }
        h = digestFlours(h);
        h = digestDoings(h);
        h = digestLoaf(h);
        for (int s = 0; s < slips.size; s++) {
            h = 31 * h + slips.doings[s];
            h = 31 * h + slips.heights[s];
        }
        h = digestRows(h);
        return digestTexts(h);
    }

    // ---- numbers of things

    private static boolean isRow(int r) {
        return r >= 0 && r < ROWS;
    }

    private static boolean isText(int t) {
        return t >= 0 && t < TEXTS;
    }

    private static boolean isFlour(int k) {
        return k >= 0 && k < FLOURS;
    }

    private static boolean isDoing(int k) {
        return k >= 0 && k < DOINGS;
    }

    private static boolean isPlace(int k) {
        return k >= 0 && k < PLACES;
    }

    private static boolean isWarmth(int w) {
        return w >= 0 && w <= WARMTH_MOST;
    }

    private boolean isFall(int k) {
        return k >= 0 && k < loaf.dough.tornCells;
    }

    // ---- what is told and found

    private int tell(int value) {
        latestAsked = value;
        return 1;
    }

    private void tellFraction(int above, int below) {
        int shared = 1;
        for (int d = 2; d <= below; d++) {
            if (above % d == 0 && below % d == 0) {
                shared = d;
            }
        }
        latestUpper = above / shared;
        latestLower = below / shared;
    }

    private int found(int f) {
        latestFinding = f;
        if (f >= NOTHING && f <= SIZE) {
            findingCounts[f]++;
        }
        return FINDING;
    }

    // ---- what lacks: the finding that is due, 0 if nothing lacks

    private int lackOfPlace(int r, int i) {
        if (!rows[r].isThere()) {
            return NOTHING;
        }
        return rows[r].has(i) ? 0 : BEYOND;
    }

    private int lackOfPairs(int r) {
        return countFlours() == 0 || countDoings() == 0 ? NOTHING : lackOfCut(r);
    }

    private int lackOfPairAndCut(int flour, int doing, int r) {
        return !flours[flour].there || !doings[doing].there ? NOTHING : lackOfCut(r);
    }

    private int lackOfCut(int r) {
        if (!rows[r].isThere()) {
            return NOTHING;
        }
        if (rows[r].size != CELLS) {
            return SIZE;
        }
        for (int c = 0; c < CELLS; c++) {
            if (rows[r].places[c] < 0 || rows[r].places[c] > STICKY) {
                return UNLIKE;
            }
        }
        return 0;
    }

    private int lackOfLaw(int flour) {
        if (!flours[flour].there) {
            return NOTHING;
        }
        if (slips.size == 0) {
            return NOUGHT;
        }
        for (int s = 0; s < slips.size; s++) {
            if (!doings[slips.doings[s]].there) {
                return NOTHING;
            }
        }
        return 0;
    }

    // ---- pairs and laws

    /** More than any pair can be UNLIKE, if the pair is not there. */
    private int unlikeOfPair(int pair, int r) {
        Flour flour = flours[pair / DOINGS];
        Doing doing = doings[pair % DOINGS];
        if (!flour.there || !doing.there) {
            return CELLS + 1;
        }
        return baker.bake(flour, doing).unlikeTo(rows[r]);
    }

    private static int yeastOfLaw(int l) {
        return 1 + l / LAW_STRONGS;
    }

    private static int strongOfLaw(int l) {
        return 10 * (1 + l % LAW_STRONGS);
    }

    private void takeLaw(int flour, int l) {
        otherFlour.take(flours[flour]);
        otherFlour.parts[YEAST] = yeastOfLaw(l);
        otherFlour.parts[STRONG] = strongOfLaw(l);
    }

    /** The first LAW of the least OFF; OFF of each one stands in lawOffs. */
    private int bestLaw(int flour) {
        int best = 0;
        for (int l = 0; l < LAWS; l++) {
            takeLaw(flour, l);
            Arrays.fill(lawHeights, MISSING);
            int off = 0;
            for (int s = 0; s < slips.size; s++) {
                int k = slips.doings[s];
                if (lawHeights[k] == MISSING) {
                    lawHeights[k] = baker.bake(otherFlour, doings[k]).heightNow();
                }
                off += Math.abs(lawHeights[k] - slips.heights[s]);
            }
            lawOffs[l] = off;
            if (off < lawOffs[best]) {
                best = l;
            }
        }
        return best;
    }

    // ---- counts

    private int countFlours() {
        int n = 0;
        for (int k = 0; k < FLOURS; k++) {
            n += flours[k].there ? 1 : 0;
        }
        return n;
    }

    private int countDoings() {
        int n = 0;
        for (int k = 0; k < DOINGS; k++) {
            n += doings[k].there ? 1 : 0;
        }
        return n;
    }

    private int countKept() {
        int n = 0;
        for (int k = 0; k < PLACES; k++) {
            n += kept[k].there ? 1 : 0;
        }
        return n;
    }

    private int countRows() {
        int n = 0;
        for (int r = 0; r < ROWS; r++) {
            n += rows[r].isThere() ? 1 : 0;
        }
        return n;
    }

    private int countTexts() {
        int n = 0;
        for (int t = 0; t < TEXTS; t++) {
            n += texts[t].isThere() ? 1 : 0;
        }
        return n;
    }

    // ---- parts of the digest

    private long digestFlours(long start) {
        long h = start;
        for (int k = 0; k < FLOURS; k++) {
            if (!flours[k].there) {
                h = 31 * h + MISSING;
                continue;
            }
            for (int what = 0; what < PARTS; what++) {
                h = 31 * h + flours[k].parts[what];
            }
        }
        return h;
    }

    private long digestDoings(long start) {
        long h = start;
        for (int k = 0; k < DOINGS; k++) {
            if (!doings[k].there) {
                h = 31 * h + MISSING;
                continue;
            }
            for (int i = 0; i < doings[k].size; i++) {
                h = 31 * h + doings[k].kinds[i];
                h = 31 * h + doings[k].warmthAndTurns(i);
            }
        }
        return h;
    }

    private long digestLoaf(long start) {
        if (!loaf.there) {
            return 31 * start + MISSING;
        }
        long h = start;
        for (int c = 0; c < CELLS; c++) {
            for (int what = 0; what < CELL_FACTS; what++) {
                h = 31 * h + loaf.dough.factOf(c, what);
            }
        }
        for (int k = 0; k < loaf.dough.tornCells; k++) {
            for (int what = 0; what < FALL_FACTS; what++) {
                h = 31 * h + loaf.falls.factOf(k, what);
            }
        }
        return h;
    }

    private long digestRows(long start) {
        long h = start;
        for (int r = 0; r < ROWS; r++) {
            h = 31 * h + rows[r].size;
            for (int i = 0; i < rows[r].size; i++) {
                h = 31 * h + rows[r].places[i];
            }
        }
        return h;
    }

    private long digestTexts(long start) {
        long h = start;
        for (int t = 0; t < TEXTS; t++) {
            h = 31 * h + texts[t].size;
            for (int i = 0; i < texts[t].size; i++) {
                h = 31 * h + texts[t].bytes[i];
            }
        }
        return h;
    }

    /** A ROW; its size is MISSING as long as it is missing. */
    private static final class Row {
        final int[] places = new int[ROW_MOST];
        int size = MISSING;

        boolean isThere() {
            return size != MISSING;
        }

        boolean has(int i) {
            return i >= 0 && i < size;
        }

        boolean hasSpan(int i, int n) {
            return i >= 0 && n >= 0 && n <= size && i <= size - n;
        }

        void renew(int n) {
            size = Math.max(0, Math.min(n, ROW_MOST));
            for (int i = 0; i < size; i++) {
                places[i] = 0;
            }
        }
    }

    /** A TEXT; its size is MISSING as long as it is missing. */
    private static final class Text {
        final byte[] bytes = new byte[TEXT_MOST];
        int size = MISSING;

        boolean isThere() {
            return size != MISSING;
        }

        boolean has(int i) {
            return i >= 0 && i < size;
        }

        void renew(int n) {
            size = Math.max(0, Math.min(n, TEXT_MOST));
            for (int i = 0; i < size; i++) {
                bytes[i] = BLANK;
            }
        }

        int signAt(int i) {
            return i >= 0 && i < size ? bytes[i] : NO_SIGN;
        }

        boolean isFigure(int i) {
            int sign = signAt(i);
            return sign >= '0' && sign <= '9';
        }

        int figuresFrom(int i) {
            if (!isFigure(i)) {
                return 0;
            }
            return isFigure(i + 1) ? 2 : 1;
        }

        int numberFrom(int i, int figures) {
            int number = 0;
            for (int f = 0; f < figures; f++) {
                number = 10 * number + signAt(i + f) - '0';
            }
            return number;
        }
    }

    /** Reads TEXTS: what was read stands in its fields, if there was no FAULT. */
    private static final class Reader {
        final Flour flourRead = new Flour();
        final Doing doingRead = new Doing();
        int itemsRead;
        private int place;

        int readFlour(Text text) {
            flourRead.beUsual();
            itemsRead = 0;
            place = 0;
            for (int i = 0; i < TEXT_MOST && place < text.size; i++) {
                if (text.signAt(place) == BLANK) {
                    place++;
                    continue;
                }
                if (!readItem(text)) {
                    return place;
                }
            }
            flourRead.there = true;
            return NONE;
        }

        int readDoing(Text text) {
            doingRead.size = 0;
            place = 0;
            for (int i = 0; i < TEXT_MOST && place < text.size; i++) {
                if (text.signAt(place) == BLANK) {
                    place++;
                    continue;
                }
                if (!readStep(text)) {
                    return place;
                }
            }
            doingRead.there = true;
            return NONE;
        }

        /** Goes on by one place at least, or stops at the FAULT. */
        private boolean readItem(Text text) {
            int part = indexOf(text.signAt(place), PART_LETTERS);
            if (part < 0) {
                return false;
            }
            place++;
            int figures = text.figuresFrom(place);
            int number = text.numberFrom(place, figures);
            place += figures;
            if (figures == 0 || number < PART_LEAST[part] || number > PART_MOST[part]) {
                return false;
            }
            flourRead.parts[part] = number;
            itemsRead++;
            return true;
        }

        /** Goes on by one place at least, or stops at the FAULT. */
        private boolean readStep(Text text) {
            int kind = REST + indexOf(text.signAt(place), STEP_LETTERS);
            if (kind < REST || doingRead.size >= STEPS_MOST) {
                return false;
            }
            place++;
            return kind == REST || kind == OVEN ? readLasting(text, kind) : doingRead.add(kind, 0, 0);
        }

        private boolean readLasting(Text text, int kind) {
            if (!text.isFigure(place)) {
                return false;
            }
            int warmth = text.numberFrom(place, 1);
            place++;
            if (text.signAt(place) != ':') {
                return false;
            }
            place++;
            int figures = text.figuresFrom(place);
            int n = text.numberFrom(place, figures);
            place += figures;
            if (n < 1 || n > LASTS_MOST || doingRead.turnsInAll() + n > TURNS_MOST) {
                return false;
            }
            return doingRead.add(kind, warmth, n);
        }

        private static int indexOf(int sign, int[] letters) {
            for (int i = 0; i < letters.length; i++) {
                if (letters[i] == sign) {
                    return i;
                }
            }
            return -1;
        }
    }

    /** A FLOUR. */
    private static final class Flour {
        final int[] parts = new int[PARTS];
        boolean there;

        void beUsual() {
            for (int part = 0; part < PARTS; part++) {
                parts[part] = PART_USUAL[part];
            }
        }

        void take(Flour other) {
            System.arraycopy(other.parts, 0, parts, 0, PARTS);
            there = other.there;
        }

        boolean isLike(Flour other) {
            for (int part = 0; part < PARTS; part++) {
                if (parts[part] != other.parts[part]) {
                    return false;
                }
            }
            return true;
        }
    }

    /** A DOING: its STEPS by kind, WARMTH and TURNS (both 0 of what does not last). */
    private static final class Doing {
        final int[] kinds = new int[STEPS_MOST];
        final int[] warmths = new int[STEPS_MOST];
        final int[] turns = new int[STEPS_MOST];
        int size;
        boolean there;

        boolean add(int kind, int warmth, int n) {
            if (size >= STEPS_MOST) {
                return false;
            }
            kinds[size] = kind;
            warmths[size] = warmth;
            turns[size] = n;
            size++;
            return true;
        }

        void take(Doing other) {
            System.arraycopy(other.kinds, 0, kinds, 0, other.size);
            System.arraycopy(other.warmths, 0, warmths, 0, other.size);
            System.arraycopy(other.turns, 0, turns, 0, other.size);
            size = other.size;
            there = other.there;
        }

        int turnsInAll() {
            int all = 0;
            for (int i = 0; i < size; i++) {
                all += turns[i];
            }
            return all;
        }

        int warmthAndTurns(int i) {
            return 100 * warmths[i] + turns[i];
        }

        boolean lasts(int i) {
            return kinds[i] == REST || kinds[i] == OVEN;
        }

        boolean mayLast(int i, int n) {
            return n >= 1 && n <= LASTS_MOST && turnsInAll() - turns[i] + n <= TURNS_MOST;
        }

        int firstRest() {
            for (int i = 0; i < size; i++) {
                if (kinds[i] == REST) {
                    return i;
                }
            }
            return NONE;
        }

        int lastOven() {
            for (int i = size - 1; i >= 0; i--) {
                if (kinds[i] == OVEN) {
                    return i;
                }
            }
            return NONE;
        }

        void warmRests(int w) {
            for (int i = 0; i < size; i++) {
                if (kinds[i] == REST) {
                    warmths[i] = w;
                }
            }
        }

        void shiftOvens(int off) {
            for (int i = 0; i < size; i++) {
                if (kinds[i] == OVEN) {
                    warmths[i] = Math.max(0, Math.min(WARMTH_MOST, warmths[i] + off));
                }
            }
        }

        boolean allows(int change) {
            int i = change / 10;
            if (change < 0 || i >= size) {
                return false;
            }
            return switch (change % 10) {
                case 0 -> lasts(i) && warmths[i] > 0;
                case 1 -> lasts(i) && warmths[i] < WARMTH_MOST;
                case 2 -> lasts(i) && mayLast(i, turns[i] - 1);
                case 3 -> lasts(i) && mayLast(i, turns[i] + 1);
                case 4 -> !lasts(i);
                default -> false;
            };
        }

        void changeBy(int change) {
            if (!allows(change)) {
                return;
            }
            int i = change / 10;
            switch (change % 10) {
                case 0 -> warmths[i]--;
                case 1 -> warmths[i]++;
                case 2 -> turns[i]--;
                case 3 -> turns[i]++;
                default -> leaveOut(i);
            }
        }

        private void leaveOut(int left) {
            for (int i = left; i < size - 1; i++) {
                kinds[i] = kinds[i + 1];
                warmths[i] = warmths[i + 1];
                turns[i] = turns[i + 1];
            }
            size--;
        }

        int sharedSteps(Doing other) {
            int most = Math.min(size, other.size);
            for (int i = 0; i < most; i++) {
                if (kinds[i] != other.kinds[i] || warmths[i] != other.warmths[i] || turns[i] != other.turns[i]) {
                    return i;
                }
            }
            return most;
        }
    }

    /** The CELLS of a LOAF, and how far it has gone. */
    private static final class Dough {
        final int[] gas = new int[CELLS];
        final int[] stretch = new int[CELLS];
        final int[] heat = new int[CELLS];
        final int[] set = new int[CELLS];
        final int[] torn = new int[CELLS];
        int tornCells;
        int turn;
        int stepNow;
        int turnsOfStep;
        boolean ovened;

        void start(int strong) {
            for (int c = 0; c < CELLS; c++) {
                gas[c] = 0;
                stretch[c] = strong;
                heat[c] = 20;
                set[c] = 0;
                torn[c] = 0;
            }
            tornCells = 0;
            turn = 0;
            stepNow = 0;
            turnsOfStep = 0;
            ovened = false;
        }

        void take(Dough other) {
            System.arraycopy(other.gas, 0, gas, 0, CELLS);
            System.arraycopy(other.stretch, 0, stretch, 0, CELLS);
            System.arraycopy(other.heat, 0, heat, 0, CELLS);
            System.arraycopy(other.set, 0, set, 0, CELLS);
            System.arraycopy(other.torn, 0, torn, 0, CELLS);
            tornCells = other.tornCells;
            turn = other.turn;
            stepNow = other.stepNow;
            turnsOfStep = other.turnsOfStep;
            ovened = other.ovened;
        }

        boolean isAllTorn() {
            return tornCells >= CELLS;
        }

        int factOf(int c, int what) {
            return switch (what) {
                case 0 -> gas[c];
                case 1 -> stretch[c];
                case 2 -> heat[c];
                case 3 -> set[c];
                default -> torn[c];
            };
        }

        int heightNow() {
            int all = 0;
            for (int c = 0; c < CELLS; c += 2) {
                all += 10 + (gas[c] + gas[c + 1]) / 20 - 3 * (torn[c] + torn[c + 1]);
            }
            return all;
        }

        int worthNow() {
            int done = 0;
            for (int c = 0; c < CELLS; c++) {
                done += torn[c] == 0 && set[c] >= FIRM ? 1 : 0;
            }
            return Math.max(0, heightNow() + done - 5 * tornCells);
        }

        int lookOf(int c) {
            if (torn[c] != 0) {
                return TORN;
            }
            return set[c] < FIRM ? STICKY : 0;
        }

        int spoiledCells() {
            int spoiled = 0;
            for (int c = 0; c < CELLS; c++) {
                spoiled += lookOf(c) != 0 ? 1 : 0;
            }
            return spoiled;
        }

        int unlikeTo(Row seen) {
            int unlike = 0;
            for (int c = 0; c < CELLS; c++) {
                unlike += lookOf(c) != seen.places[c] ? 1 : 0;
            }
            return unlike;
        }

        /** Goes up by layers, SIDE behind MIDDLE, so that each CELL still sees what its NEIGHBOURS were. */
        void warmBy(int air) {
            int below = heat[1];
            for (int side = 0; side < CELLS; side += 2) {
                int middle = side + 1;
                int was = heat[middle];
                if (side == 0 || side == CELLS - 2) {
                    heat[middle] = was + (air - was) / 2;
                } else {
                    heat[middle] = was + (below + heat[middle + ABOVE] + heat[side] - 3 * was) / 4;
                }
                heat[side] += (air - heat[side]) / 2;
                below = was;
            }
        }

        void ripen(Flour flour) {
            int lift = flour.parts[YEAST] * (10 - flour.parts[SALT]);
            int sprout = flour.parts[SPROUT];
            int loss = flour.parts[SALT] == 0 ? 2 : 1;
            for (int c = 0; c < CELLS; c++) {
                int warm = heat[c];
                if (warm <= 55 && torn[c] == 0) {
                    gas[c] += lift * (warm / 10) / 20;
                }
                int firming = warm >= 60 ? (warm - 50) / 5 - sprout : 0;
                if (firming > 0) {
                    set[c] = Math.min(SET_MOST, set[c] + firming);
                }
                if (warm >= 20 && set[c] < FIRM) {
                    stretch[c] = stretch[c] > loss ? stretch[c] - loss : 0;
                }
            }
        }

        void knead() {
            for (int c = 0; c < CELLS; c++) {
                stretch[c] = Math.min(STRETCH_MOST, stretch[c] + 10);
                gas[c] /= 2;
            }
        }

        void openDoor() {
            for (int c = 0; c < CELLS; c++) {
                if (c % 2 == 0 || c < 2 || c >= CELLS - 2) {
                    heat[c] = Math.max(0, heat[c] - 20);
                }
            }
        }

        void tearOpen(int c) {
            int above = c + ABOVE;
            if (above < CELLS && torn[above] == 0) {
                gas[above] += gas[c] / 2;
            }
            gas[c] = 0;
            torn[c] = 1;
            tornCells++;
        }
    }

    /** FALLS of a LOAF; there are as many as TORN CELLS, for none tears again. */
    private static final class Falls {
        final int[] kinds = new int[CELLS];
        final int[] cells = new int[CELLS];
        final int[] gases = new int[CELLS];
        final int[] turns = new int[CELLS];
        final int[] marks = new int[CELLS];

        void take(Falls other) {
            System.arraycopy(other.kinds, 0, kinds, 0, CELLS);
            System.arraycopy(other.cells, 0, cells, 0, CELLS);
            System.arraycopy(other.gases, 0, gases, 0, CELLS);
            System.arraycopy(other.turns, 0, turns, 0, CELLS);
            System.arraycopy(other.marks, 0, marks, 0, CELLS);
        }

        /** What of a FALL is told by its KIND is its mark. */
        void note(Dough dough, int c, int kind, int mark) {
            int k = dough.tornCells;
            if (k >= CELLS) {
                return;
            }
            kinds[k] = kind;
            cells[k] = c;
            gases[k] = dough.gas[c];
            turns[k] = dough.turn;
            marks[k] = mark;
        }

        int factOf(int k, int what) {
            return switch (what) {
                case 0 -> kinds[k];
                case 1 -> cells[k];
                case 2 -> gases[k];
                default -> turns[k];
            };
        }

        boolean isOfKind(int k, int kind) {
            int own = kinds[k];
            return own == kind || own == UNSALTED && kind == OVERRIPE || own == SPROUTED && kind == UNDONE;
        }
    }

    /** A LOAF with the FLOUR and the DOING by which it was begun. */
    private static final class Loaf {
        final Flour flour = new Flour();
        final Doing doing = new Doing();
        final Dough dough = new Dough();
        final Falls falls = new Falls();
        boolean there;

        void start(Flour itsFlour, Doing itsDoing) {
            flour.take(itsFlour);
            doing.take(itsDoing);
            dough.start(flour.parts[STRONG]);
            there = true;
        }

        void take(Loaf other) {
            flour.take(other.flour);
            doing.take(other.doing);
            dough.take(other.dough);
            falls.take(other.falls);
            there = other.there;
        }

        int countUndone() {
            int n = 0;
            for (int k = 0; k < dough.tornCells; k++) {
                n += falls.isOfKind(k, UNDONE) ? 1 : 0;
            }
            return n;
        }

        /** A TURN, with the KNEAD, KNOCK, DOOR that come ahead of it. */
        void passTurn() {
            for (int i = dough.stepNow; i < doing.size && !doing.lasts(i); i++) {
                handle(doing.kinds[i]);
                dough.stepNow = i + 1;
            }
            int now = dough.stepNow;
            if (now >= doing.size) {
                turnBy(TABLE_WARMTH, false);
                return;
            }
            turnBy(doing.warmths[now], doing.kinds[now] == OVEN);
            dough.turnsOfStep++;
            if (dough.turnsOfStep >= doing.turns[now]) {
                dough.stepNow = now + 1;
                dough.turnsOfStep = 0;
            }
        }

        /** A whole STEP; once all is TORN no TURN can tell anything new to a CUT, HEIGHT or WORTH. */
        void passStep(int i) {
            if (!doing.lasts(i)) {
                handle(doing.kinds[i]);
                return;
            }
            for (int n = 0; n < doing.turns[i] && !dough.isAllTorn(); n++) {
                turnBy(doing.warmths[i], doing.kinds[i] == OVEN);
            }
        }

        void turnBy(int warmth, boolean inOven) {
            dough.warmBy(10 * warmth);
            dough.ripen(flour);
            tearOverfull(inOven);
            if (inOven) {
                dough.ovened = true;
            } else if (dough.ovened) {
                tearUndone();
            }
            dough.turn++;
        }

        private void handle(int kind) {
            if (kind == KNEAD) {
                dough.knead();
            } else if (kind == KNOCK) {
                knockDown();
            } else if (kind == DOOR) {
                dough.openDoor();
            }
        }

        private void tearOverfull(boolean inOven) {
            int wet = flour.parts[WET];
            int[] gas = dough.gas;
            int[] stretch = dough.stretch;
            int[] set = dough.set;
            for (int c = 0; c < CELLS; c++) {
                if (gas[c] <= 2 * stretch[c] + set[c] + wet || dough.torn[c] != 0) {
                    continue;
                }
                if (stretch[c] < 10) {
                    tearAs(c, flour.parts[SALT] == 0 ? UNSALTED : OVERRIPE, stretch[c]);
                } else {
                    tearAs(c, inOven ? YOUNG : FALL, dough.heat[c]);
                }
            }
        }

        private void tearUndone() {
            int kind = flour.parts[SPROUT] >= 5 ? SPROUTED : UNDONE;
            for (int c = 0; c < CELLS; c++) {
                if (dough.torn[c] == 0 && dough.heat[c] < 60 && dough.set[c] < FIRM && dough.gas[c] > 40) {
                    tearAs(c, kind, FIRM - dough.set[c]);
                }
            }
        }

        private void knockDown() {
            for (int c = 0; c < CELLS; c++) {
                if (dough.torn[c] != 0) {
                    continue;
                }
                int over = dough.gas[c] - dough.stretch[c];
                if (over > 0) {
                    tearAs(c, KNOCKED, over);
                } else {
                    dough.gas[c] -= dough.gas[c] / 4;
                }
            }
        }

        private void tearAs(int c, int kind, int mark) {
            falls.note(dough, c, kind, mark);
            dough.tearOpen(c);
        }
    }

    /** Bakes LOAVES aside; what the one baked last was ahead of its STEPS is kept for the next one like it. */
    private static final class Baker {
        final Loaf aside = new Loaf();
        final Dough[] ahead = new Dough[STEPS_MOST + 1];
        int known;

        Baker() {
            for (int i = 0; i <= STEPS_MOST; i++) {
                ahead[i] = new Dough();
            }
        }

        Dough bake(Flour flour, Doing doing) {
            int from = stepsKnown(flour, doing);
            aside.start(flour, doing);
            if (from > 0) {
                aside.dough.take(ahead[from]);
            }
            known = from;
            for (int i = from; i < doing.size && !aside.dough.isAllTorn(); i++) {
                rememberAhead(i);
                aside.passStep(i);
            }
            if (!aside.dough.isAllTorn()) {
                rememberAhead(doing.size);
            }
            for (int n = 0; n < TABLE_TURNS && !aside.dough.isAllTorn(); n++) {
                aside.turnBy(TABLE_WARMTH, false);
            }
            return aside.dough;
        }

        private void rememberAhead(int i) {
            ahead[i].take(aside.dough);
            known = i + 1;
        }

        private int stepsKnown(Flour flour, Doing doing) {
            if (known == 0 || !aside.flour.isLike(flour)) {
                return 0;
            }
            return Math.min(known - 1, aside.doing.sharedSteps(doing));
        }

        int restsOf(Loaf loaf, int w) {
            known = 0;
            aside.take(loaf);
            int tornAhead = aside.dough.tornCells;
            for (int n = 0; n < RESTS_MOST; n++) {
                aside.turnBy(w, false);
                if (aside.dough.tornCells != tornAhead) {
                    return n;
                }
            }
            return RESTS_MOST;
        }
    }

    /** Looks for HOLES: goes from each TORN CELL to all that hang together with it. */
    private static final class Holes {
        final boolean[] seen = new boolean[CELLS];
        final int[] waiting = new int[CELLS];
        int waits;
        int found;
        int greatest;

        void search(Dough dough) {
            found = 0;
            greatest = 0;
            for (int c = 0; c < CELLS; c++) {
                seen[c] = dough.torn[c] == 0;
            }
            for (int c = 0; c < CELLS; c++) {
                if (!seen[c]) {
                    found++;
                    greatest = Math.max(greatest, sizeFrom(c));
                }
            }
        }

        private int sizeFrom(int start) {
            waits = 0;
            awaitCell(start);
            for (int i = 0; i < waits && i < CELLS; i++) {
                int c = waiting[i];
                awaitCell(c - ABOVE);
                awaitCell(c + ABOVE);
                awaitCell(c % 2 == 0 ? c + 1 : c - 1);
            }
            return waits;
        }

        private void awaitCell(int c) {
            if (c < 0 || c >= CELLS || waits >= CELLS || seen[c]) {
                return;
            }
            seen[c] = true;
            waiting[waits] = c;
            waits++;
        }
    }

    /** SLIPS. */
    private static final class Slips {
        final int[] doings = new int[SLIPS];
        final int[] heights = new int[SLIPS];
        int size;

        void add(int doing, int height) {
            if (size >= SLIPS) {
                return;
            }
            doings[size] = doing;
            heights[size] = height;
            size++;
        }
    }
}

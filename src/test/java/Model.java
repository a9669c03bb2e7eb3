import java.util.ArrayList;
import java.util.HashMap;
import java.util.HashSet;
import java.util.List;
import java.util.Map;
import java.util.Set;
import java.util.TreeMap;

/**
 * The document once more, written as slowly and as near to its words as can be, for LoafFall to be held
 * against: it keeps nothing for later, bakes everything from the start, and reads TEXTS by patterns.
 */
final class Model {
    static final int BAD = -1, FULL = -2, FINDING = -3, STATE = -4, SPENT = -6, NONE = -9;

    record Step(char letter, int w, int n) {
        boolean lasts() {
            return letter == 'r' || letter == 'o';
        }

        int number() {
            return "rokxd".indexOf(letter) + 1;
        }
    }

    record Fall(int kind, int cell, int gas, int turn, int stretch, int heat, int set) {
    }

    /** A LOAF: immutable FLOUR and DOING, and what the TURNS make of it. */
    static final class Bread {
        int[] flour;
        List<Step> steps;
        int turn;
        int done;
        int inStep;
        boolean ovenCame;
        int[][] cells = new int[24][5];
        List<Fall> falls = new ArrayList<>();

        Bread(int[] flour, List<Step> steps) {
            this.flour = flour.clone();
            this.steps = List.copyOf(steps);
            for (int[] c : cells) {
                c[1] = flour[1];
                c[2] = 20;
            }
        }

        Bread(Bread o) {
            this(o.flour, o.steps);
            turn = o.turn;
            done = o.done;
            inStep = o.inStep;
            ovenCame = o.ovenCame;
            for (int c = 0; c < 24; c++) {
                cells[c] = o.cells[c].clone();
            }
            falls = new ArrayList<>(o.falls);
        }

        static List<Integer> neighbours(int c) {
            List<Integer> all = new ArrayList<>();
            if (c - 2 >= 0) {
                all.add(c - 2);
            }
            if (c + 2 <= 23) {
                all.add(c + 2);
            }
            all.add(c ^ 1);
            return all;
        }

        static boolean outer(int c) {
            return c % 2 == 0 || c / 2 == 0 || c / 2 == 11;
        }

        void pass() {
            while (done < steps.size() && !steps.get(done).lasts()) {
                hand(steps.get(done).letter());
                done++;
            }
            if (done == steps.size()) {
                turn(2, false);
            } else {
                Step s = steps.get(done);
                turn(s.w(), s.letter() == 'o');
                inStep++;
                if (inStep == s.n()) {
                    done++;
                    inStep = 0;
                }
            }
        }

        void hand(char letter) {
            if (letter == 'k') {
                for (int[] c : cells) {
                    c[1] = Math.min(99, c[1] + 10);
                    c[0] = c[0] / 2;
                }
            } else if (letter == 'd') {
                for (int c = 0; c < 24; c++) {
                    if (outer(c)) {
                        cells[c][2] = Math.max(0, cells[c][2] - 20);
                    }
                }
            } else {
                Set<Integer> torn = new HashSet<>();
                for (int c = 0; c < 24; c++) {
                    if (cells[c][4] == 0 && cells[c][0] > cells[c][1]) {
                        rip(c, 3);
                    }
                    if (cells[c][4] == 1) {
                        torn.add(c);
                    }
                }
                for (int c = 0; c < 24; c++) {
                    if (!torn.contains(c)) {
                        cells[c][0] -= cells[c][0] / 4;
                    }
                }
            }
        }

        void turn(int w, boolean oven) {
            int[] old = new int[24];
            for (int c = 0; c < 24; c++) {
                old[c] = cells[c][2];
            }
            for (int c = 0; c < 24; c++) {
                if (outer(c)) {
                    cells[c][2] = old[c] + (10 * w - old[c]) / 2;
                } else {
                    int sum = 0;
                    for (int n : neighbours(c)) {
                        sum += old[n] - old[c];
                    }
                    cells[c][2] = old[c] + sum / 4;
                }
            }
            for (int[] c : cells) {
                if (c[4] == 0 && c[2] <= 55) {
                    c[0] += flour[0] * (c[2] / 10) * (10 - flour[4]) / 20;
                }
            }
            for (int[] c : cells) {
                if (c[2] >= 60) {
                    c[3] = Math.min(99, c[3] + Math.max(0, (c[2] - 50) / 5 - flour[2]));
                }
            }
            for (int[] c : cells) {
                if (c[2] >= 20 && c[3] < 50) {
                    c[1] = Math.max(0, c[1] - (flour[4] == 0 ? 2 : 1));
                }
            }
            for (int c = 0; c < 24; c++) {
                int[] x = cells[c];
                if (x[4] == 0 && x[0] > 2 * x[1] + x[3] + flour[3]) {
                    if (x[1] < 10) {
                        rip(c, flour[4] == 0 ? 6 : 1);
                    } else {
                        rip(c, oven ? 2 : 0);
                    }
                }
            }
            if (!oven && ovenCame) {
                for (int c = 0; c < 24; c++) {
                    int[] x = cells[c];
                    if (x[4] == 0 && x[2] < 60 && x[3] < 50 && x[0] > 40) {
                        rip(c, flour[2] >= 5 ? 5 : 4);
                    }
                }
            }
            ovenCame = ovenCame || oven;
            turn++;
        }

        void rip(int c, int kind) {
            int[] x = cells[c];
            falls.add(new Fall(kind, c, x[0], turn, x[1], x[2], x[3]));
            if (c + 2 < 24 && cells[c + 2][4] == 0) {
                cells[c + 2][0] += x[0] / 2;
            }
            x[0] = 0;
            x[4] = 1;
        }

        int torn() {
            int n = 0;
            for (int[] c : cells) {
                n += c[4];
            }
            return n;
        }

        int tall() {
            int all = 0;
            for (int y = 0; y < 12; y++) {
                int[] a = cells[2 * y];
                int[] b = cells[2 * y + 1];
                all += 10 + (a[0] + b[0]) / 20 - 3 * a[4] - 3 * b[4];
            }
            return all;
        }

        int worth() {
            int fine = 0;
            for (int[] c : cells) {
                if (c[3] >= 50 && c[4] == 0) {
                    fine++;
                }
            }
            return Math.max(0, tall() + fine - 5 * torn());
        }

        int[] look() {
            int[] out = new int[24];
            for (int c = 0; c < 24; c++) {
                out[c] = cells[c][4] == 1 ? 1 : cells[c][3] < 50 ? 2 : 0;
            }
            return out;
        }

        int unlike(int[] row) {
            int n = 0;
            int[] own = look();
            for (int c = 0; c < 24; c++) {
                n += own[c] == row[c] ? 0 : 1;
            }
            return n;
        }
    }

    static int turns(List<Step> steps) {
        int all = 0;
        for (Step s : steps) {
            all += s.n();
        }
        return all;
    }

    static Bread baked(int[] flour, List<Step> steps) {
        Bread b = new Bread(flour, steps);
        int end = turns(steps) + 6;
        while (b.turn < end) {
            b.pass();
        }
        return b;
    }

    static boolean tellable(List<Step> steps) {
        boolean fine = steps.size() <= 10 && turns(steps) <= 90;
        for (Step s : steps) {
            if (s.lasts()) {
                fine = fine && s.w() >= 0 && s.w() <= 9 && s.n() >= 1 && s.n() <= 30;
            }
        }
        return fine;
    }

    static List<Step> with(List<Step> steps, int i, Step s) {
        List<Step> out = new ArrayList<>(steps);
        if (s == null) {
            out.remove(i);
        } else {
            out.set(i, s);
        }
        return out;
    }

    /** All CHANGES that may be, by their numbers. */
    static TreeMap<Integer, List<Step>> allChanges(List<Step> steps) {
        TreeMap<Integer, List<Step>> all = new TreeMap<>();
        for (int i = 0; i < steps.size(); i++) {
            Step s = steps.get(i);
            if (!s.lasts()) {
                all.put(10 * i + 4, with(steps, i, null));
                continue;
            }
            all.put(10 * i, with(steps, i, new Step(s.letter(), s.w() - 1, s.n())));
            all.put(10 * i + 1, with(steps, i, new Step(s.letter(), s.w() + 1, s.n())));
            all.put(10 * i + 2, with(steps, i, new Step(s.letter(), s.w(), s.n() - 1)));
            all.put(10 * i + 3, with(steps, i, new Step(s.letter(), s.w(), s.n() + 1)));
        }
        all.values().removeIf(d -> !tellable(d));
        return all;
    }

    final int[][] rows = new int[6][];
    final byte[][] texts = new byte[4][];
    final int[][] flours = new int[4][];
    final List<List<Step>> doings = new ArrayList<>();
    final Bread[] kept = new Bread[3];
    Bread loaf;
    final List<int[]> slips = new ArrayList<>();
    int asked;
    long upper;
    long lower = 1;
    int finding;
    final int[] findings = new int[6];

    Model() {
        for (int k = 0; k < 4; k++) {
            doings.add(null);
        }
    }

    private static boolean in(int v, int least, int most) {
        return v >= least && v <= most;
    }

    private int found(int f) {
        finding = f;
        findings[f]++;
        return FINDING;
    }

    private int tell(int answer, int told) {
        asked = told;
        return answer;
    }

    int row(int r, int n) {
        if (!in(r, 0, 5) || n > 40) {
            return BAD;
        }
        if (n < 0) {
            return found(5);
        }
        rows[r] = new int[n];
        return n;
    }

    int lay(int r, int i, int v) {
        int got = at(r, i);
        if (got == 1) {
            rows[r][i] = v;
        }
        return got;
    }

    int at(int r, int i) {
        if (!in(r, 0, 5)) {
            return BAD;
        }
        if (rows[r] == null) {
            return found(1);
        }
        if (!in(i, 0, rows[r].length - 1)) {
            return found(2);
        }
        return tell(1, rows[r][i]);
    }

    int tear(int r) {
        if (!in(r, 0, 5)) {
            return BAD;
        }
        if (rows[r] == null) {
            return found(1);
        }
        rows[r] = null;
        return 1;
    }

    int copy(int r, int i, int to, int j, int n) {
        if (!in(r, 0, 5) || !in(to, 0, 5)) {
            return BAD;
        }
        if (n < 0) {
            return found(5);
        }
        if (rows[r] == null || rows[to] == null) {
            return found(1);
        }
        if (i < 0 || j < 0 || (long) i + n > rows[r].length || (long) j + n > rows[to].length) {
            return found(2);
        }
        int[] taken = rows[r].clone();
        for (int k = 0; k < n; k++) {
            rows[to][j + k] = taken[i + k];
        }
        return 1;
    }

    int mean(int r) {
        if (!in(r, 0, 5)) {
            return BAD;
        }
        if (rows[r] == null) {
            return found(1);
        }
        if (rows[r].length == 0) {
            return found(4);
        }
        long sum = 0;
        for (int v : rows[r]) {
            sum += v;
        }
        return tell(1, (int) (sum / rows[r].length));
    }

    int text(int t, int n) {
        if (!in(t, 0, 3) || n > 80) {
            return BAD;
        }
        if (n < 0) {
            return found(5);
        }
        texts[t] = new byte[n];
        java.util.Arrays.fill(texts[t], (byte) ' ');
        return n;
    }

    int put(int t, int i, int v) {
        if (!in(t, 0, 3)) {
            return BAD;
        }
        if (texts[t] == null) {
            return found(1);
        }
        if (!in(i, 0, texts[t].length - 1)) {
            return found(2);
        }
        int was = texts[t][i];
        texts[t][i] = (byte) v;
        return 1000 + was;
    }

    private String words(int t) {
        StringBuilder s = new StringBuilder();
        for (byte b : texts[t]) {
            s.append((char) (b & 255));
        }
        return s.toString();
    }

    private static final String LETTERS = "ysewt";
    private static final int[] LEAST = {1, 10, 0, 0, 0};
    private static final int[] MOST = {9, 99, 9, 9, 9};

    /** The FAULT (NONE: there is none); items by parts in the order of the TEXT. */
    private static int faultOfFlour(String s, List<int[]> items) {
        java.util.regex.Pattern number = java.util.regex.Pattern.compile("[0-9]{1,2}");
        int p = 0;
        while (true) {
            while (p < s.length() && s.charAt(p) == ' ') {
                p++;
            }
            if (p == s.length()) {
                return NONE;
            }
            int part = LETTERS.indexOf(s.charAt(p));
            if (part < 0) {
                return p;
            }
            p++;
            java.util.regex.Matcher m = number.matcher(s).region(p, s.length());
            if (!m.lookingAt()) {
                return p;
            }
            int v = Integer.parseInt(m.group());
            p = m.end();
            if (!in(v, LEAST[part], MOST[part])) {
                return p;
            }
            items.add(new int[] {part, v});
        }
    }

    private static int faultOfDoing(String s, List<Step> steps) {
        int p = 0;
        while (true) {
            while (p < s.length() && s.charAt(p) == ' ') {
                p++;
            }
            if (p == s.length()) {
                return NONE;
            }
            char letter = s.charAt(p);
            if ("rokxd".indexOf(letter) < 0 || steps.size() == 10) {
                return p;
            }
            p++;
            if (letter != 'r' && letter != 'o') {
                steps.add(new Step(letter, 0, 0));
                continue;
            }
            String form = "[0-9]:[0-9][0-9]?";
            String rest = s.substring(p);
            java.util.regex.Matcher m = java.util.regex.Pattern.compile(form).matcher(rest);
            if (!m.lookingAt()) {
                boolean figure = rest.matches("(?s)[0-9].*");
                boolean colon = rest.matches("(?s)[0-9]:.*");
                return p + (colon ? 2 : figure ? 1 : 0);
            }
            int n = Integer.parseInt(m.group().substring(2));
            steps.add(new Step(letter, m.group().charAt(0) - '0', n));
            p += m.end();
            if (!tellable(steps)) {
                return p;
            }
        }
    }

    int fault(int t, boolean doing) {
        if (!in(t, 0, 3)) {
            return BAD;
        }
        if (texts[t] == null) {
            return found(1);
        }
        return doing ? faultOfDoing(words(t), new ArrayList<>()) : faultOfFlour(words(t), new ArrayList<>());
    }

    int flour(int k, int t) {
        if (!in(k, 0, 3) || !in(t, 0, 3)) {
            return BAD;
        }
        if (texts[t] == null) {
            return found(1);
        }
        List<int[]> items = new ArrayList<>();
        if (faultOfFlour(words(t), items) != NONE) {
            return STATE;
        }
        flours[k] = new int[] {3, 40, 1, 4, 2};
        for (int[] item : items) {
            flours[k][item[0]] = item[1];
        }
        return items.size();
    }

    int doing(int k, int t) {
        if (!in(k, 0, 3) || !in(t, 0, 3)) {
            return BAD;
        }
        if (texts[t] == null) {
            return found(1);
        }
        List<Step> steps = new ArrayList<>();
        if (faultOfDoing(words(t), steps) != NONE) {
            return STATE;
        }
        doings.set(k, steps);
        return steps.size();
    }

    int about(int k, int what) {
        if (!in(k, 0, 3) || !in(what, 0, 4)) {
            return BAD;
        }
        return flours[k] == null ? found(1) : tell(1, flours[k][what]);
    }

    int step(int k, int i) {
        if (!in(k, 0, 3)) {
            return BAD;
        }
        if (doings.get(k) == null) {
            return found(1);
        }
        if (!in(i, 0, doings.get(k).size() - 1)) {
            return found(2);
        }
        Step s = doings.get(k).get(i);
        return tell(s.number(), 100 * s.w() + s.n());
    }

    int loaf(int flour, int doing) {
        if (!in(flour, 0, 3) || !in(doing, 0, 3)) {
            return BAD;
        }
        if (flours[flour] == null || doings.get(doing) == null) {
            return found(1);
        }
        loaf = new Bread(flours[flour], doings.get(doing));
        return turns(loaf.steps);
    }

    int go(int n) {
        if (!in(n, 0, 99)) {
            return BAD;
        }
        if (loaf == null) {
            return STATE;
        }
        if (loaf.turn + n > 99) {
            return SPENT;
        }
        for (int i = 0; i < n; i++) {
            loaf.pass();
        }
        return loaf.turn;
    }

    int cell(int c, int what) {
        if (!in(c, 0, 23) || !in(what, 0, 4)) {
            return BAD;
        }
        return loaf == null ? STATE : tell(1, loaf.cells[c][what]);
    }

    int fall(int k, int what) {
        if (loaf == null || !in(k, 0, loaf.falls.size() - 1) || !in(what, 0, 3)) {
            return BAD;
        }
        Fall f = loaf.falls.get(k);
        return tell(1, new int[] {f.kind(), f.cell(), f.gas(), f.turn()}[what]);
    }

    int mark(int k, int kind) {
        if (loaf == null || !in(k, 0, loaf.falls.size() - 1) || !in(kind, 1, 6)) {
            return BAD;
        }
        Fall f = loaf.falls.get(k);
        Map<Integer, Integer> tells = new HashMap<>();
        if (f.kind() == 1 || f.kind() == 6) {
            tells.put(1, f.stretch());
        }
        if (f.kind() == 2) {
            tells.put(2, f.heat());
        }
        if (f.kind() == 3) {
            tells.put(3, f.gas() - f.stretch());
        }
        if (f.kind() == 4 || f.kind() == 5) {
            tells.put(4, 50 - f.set());
        }
        if (f.kind() == 5) {
            tells.put(5, loaf.flour[2]);
        }
        if (f.kind() == 6) {
            tells.put(6, f.cell() / 2);
        }
        return tells.containsKey(kind) ? tells.get(kind) : found(3);
    }

    int keep(int k) {
        if (!in(k, 0, 2)) {
            return BAD;
        }
        if (loaf == null) {
            return STATE;
        }
        kept[k] = new Bread(loaf);
        return loaf.turn;
    }

    int on(int k) {
        if (!in(k, 0, 2)) {
            return BAD;
        }
        if (kept[k] == null) {
            return found(1);
        }
        loaf = new Bread(kept[k]);
        return loaf.turn;
    }

    int height() {
        return loaf == null ? STATE : tell(loaf.tall(), loaf.worth());
    }

    int holes() {
        if (loaf == null) {
            return STATE;
        }
        Set<Integer> left = new HashSet<>();
        for (int c = 0; c < 24; c++) {
            if (loaf.cells[c][4] == 1) {
                left.add(c);
            }
        }
        int holes = 0;
        int greatest = 0;
        while (!left.isEmpty()) {
            int before = left.size();
            spread(left.iterator().next(), left);
            holes++;
            greatest = Math.max(greatest, before - left.size());
        }
        return tell(holes, greatest);
    }

    private static void spread(int c, Set<Integer> left) {
        if (left.remove(c)) {
            for (int n : Bread.neighbours(c)) {
                spread(n, left);
            }
        }
    }

    int cut(int r) {
        if (!in(r, 0, 5)) {
            return BAD;
        }
        if (loaf == null) {
            return STATE;
        }
        rows[r] = loaf.look();
        return loaf.torn();
    }

    int rests(int w) {
        if (!in(w, 0, 9)) {
            return BAD;
        }
        if (loaf == null) {
            return STATE;
        }
        Bread b = new Bread(loaf);
        int n = 0;
        while (n < 60) {
            b.turn(w, false);
            if (b.torn() > loaf.torn()) {
                break;
            }
            n++;
        }
        return n;
    }

    private int lackOfCut(int r) {
        if (rows[r] == null) {
            return 1;
        }
        if (rows[r].length != 24) {
            return 5;
        }
        for (int v : rows[r]) {
            if (!in(v, 0, 2)) {
                return 3;
            }
        }
        return 0;
    }

    /** How UNLIKE each pair is, by 10 times the FLOUR and the DOING. */
    private TreeMap<Integer, Integer> pairs(int r) {
        TreeMap<Integer, Integer> all = new TreeMap<>();
        for (int f = 0; f < 4; f++) {
            for (int d = 0; d < 4; d++) {
                if (flours[f] != null && doings.get(d) != null) {
                    all.put(10 * f + d, r < 0 ? 0 : baked(flours[f], doings.get(d)).unlike(rows[r]));
                }
            }
        }
        return all;
    }

    int why(int r) {
        if (!in(r, 0, 5)) {
            return BAD;
        }
        int lack = pairs(-1).isEmpty() ? 1 : lackOfCut(r);
        return lack != 0 ? found(lack) : least(pairs(r));
    }

    /** The first key of the least value; that by asked(). */
    private int least(Map<Integer, Integer> ordered) {
        int best = NONE;
        int value = Integer.MAX_VALUE;
        for (Map.Entry<Integer, Integer> e : ordered.entrySet()) {
            if (e.getValue() < value) {
                value = e.getValue();
                best = e.getKey();
            }
        }
        return ordered.isEmpty() ? NONE : tell(best, value);
    }

    /** The first key of the greatest value; that by asked(). */
    private int greatest(Map<Integer, Integer> ordered) {
        Map<Integer, Integer> turned = new java.util.LinkedHashMap<>();
        ordered.forEach((k, v) -> turned.put(k, -v));
        int best = least(turned);
        if (best != NONE) {
            asked = -asked;
        }
        return best;
    }

    int odds(int r, int flour) {
        if (!in(r, 0, 5) || !in(flour, 0, 3)) {
            return BAD;
        }
        int lack = pairs(-1).isEmpty() ? 1 : lackOfCut(r);
        if (lack != 0) {
            return found(lack);
        }
        TreeMap<Integer, Integer> all = pairs(r);
        int value = java.util.Collections.min(all.values());
        all.values().removeIf(v -> v != value);
        int own = 0;
        for (int k : all.keySet()) {
            own += k / 10 == flour ? 1 : 0;
        }
        int shared = java.math.BigInteger.valueOf(own).gcd(java.math.BigInteger.valueOf(all.size())).intValue();
        upper = own / shared;
        lower = all.size() / shared;
        return all.size();
    }

    int sprout(int flour, int doing, int r) {
        if (!in(flour, 0, 3) || !in(doing, 0, 3) || !in(r, 0, 5)) {
            return BAD;
        }
        int lack = flours[flour] == null || doings.get(doing) == null ? 1 : lackOfCut(r);
        if (lack != 0) {
            return found(lack);
        }
        TreeMap<Integer, Integer> all = new TreeMap<>();
        for (int e = 0; e <= 9; e++) {
            int[] f = flours[flour].clone();
            f[2] = e;
            all.put(e, baked(f, doings.get(doing)).unlike(rows[r]));
        }
        return least(all);
    }

    private static List<Step> inOven(List<Step> steps, int off) {
        List<Step> out = new ArrayList<>();
        for (Step s : steps) {
            out.add(s.letter() == 'o' ? new Step('o', Math.max(0, Math.min(9, s.w() + off)), s.n()) : s);
        }
        return out;
    }

    int rack(int flour, int doing, int r) {
        if (!in(flour, 0, 3) || !in(doing, 0, 3) || !in(r, 0, 5)) {
            return BAD;
        }
        int lack = flours[flour] == null || doings.get(doing) == null ? 1 : lackOfCut(r);
        if (lack != 0) {
            return found(lack);
        }
        Map<Integer, Integer> all = new java.util.LinkedHashMap<>();
        for (int off : new int[] {0, -1, 1, -2, 2}) {
            all.put(off + 5, baked(flours[flour], inOven(doings.get(doing), off)).unlike(rows[r]));
        }
        return least(all);
    }

    int change() {
        if (loaf == null) {
            return STATE;
        }
        TreeMap<Integer, Integer> all = new TreeMap<>();
        allChanges(loaf.steps).forEach((k, d) -> all.put(k, baked(loaf.flour, d).worth()));
        return greatest(all);
    }

    int changes() {
        if (loaf == null) {
            return STATE;
        }
        TreeMap<Integer, Integer> all = new TreeMap<>();
        allChanges(loaf.steps).forEach((one, d) ->
                allChanges(d).forEach((other, e) -> all.put(100 * one + other, baked(loaf.flour, e).worth())));
        return greatest(all);
    }

    int wide(int i) {
        if (!in(i, 0, 9)) {
            return BAD;
        }
        if (loaf == null) {
            return STATE;
        }
        if (i >= loaf.steps.size()) {
            return BAD;
        }
        Step s = loaf.steps.get(i);
        if (!s.lasts()) {
            return found(3);
        }
        List<Integer> fine = new ArrayList<>();
        for (int n = 1; n <= 30; n++) {
            List<Step> d = with(loaf.steps, i, new Step(s.letter(), s.w(), n));
            if (tellable(d) && baked(loaf.flour, d).torn() == 0) {
                fine.add(n);
            }
        }
        return fine.isEmpty() ? NONE : tell(fine.get(0), fine.get(fine.size() - 1));
    }

    int flours(int doing) {
        if (!in(doing, 0, 3)) {
            return BAD;
        }
        int there = 0;
        for (int[] f : flours) {
            there += f == null ? 0 : 1;
        }
        if (doings.get(doing) == null || there == 0) {
            return found(1);
        }
        int whole = 0;
        int best = -1;
        int bits = 0;
        for (int f = 0; f < 4; f++) {
            if (flours[f] == null) {
                continue;
            }
            Bread b = baked(flours[f], doings.get(doing));
            whole += b.torn() == 0 ? 1 << f : 0;
            if (b.worth() > best) {
                best = b.worth();
                bits = 0;
            }
            bits += b.worth() == best ? 1 << f : 0;
        }
        return tell(whole, bits);
    }

    private int firstRest() {
        for (int i = 0; i < loaf.steps.size(); i++) {
            if (loaf.steps.get(i).letter() == 'r') {
                return i;
            }
        }
        return -1;
    }

    int begin(int w) {
        if (!in(w, 0, 9)) {
            return BAD;
        }
        if (loaf == null) {
            return STATE;
        }
        int first = firstRest();
        if (first < 0) {
            return found(3);
        }
        List<Step> room = new ArrayList<>();
        for (Step s : loaf.steps) {
            room.add(s.letter() == 'r' ? new Step('r', w, s.n()) : s);
        }
        TreeMap<Integer, Integer> all = new TreeMap<>();
        for (int n = 1; n <= 30; n++) {
            List<Step> d = with(room, first, new Step('r', w, n));
            if (tellable(d)) {
                all.put(n, baked(loaf.flour, d).worth());
            }
        }
        int n = greatest(all);
        return tell(n, turns(with(room, first, new Step('r', w, n))));
    }

    int oven(int off) {
        if (!in(off, -2, 2)) {
            return BAD;
        }
        if (loaf == null) {
            return STATE;
        }
        int last = -1;
        for (int i = 0; i < loaf.steps.size(); i++) {
            last = loaf.steps.get(i).letter() == 'o' ? i : last;
        }
        if (last < 0) {
            return found(3);
        }
        int own = baked(loaf.flour, loaf.steps).worth();
        List<Step> other = inOven(loaf.steps, off);
        TreeMap<Integer, Integer> all = new TreeMap<>();
        for (int n = 1; n <= 30; n++) {
            List<Step> d = with(other, last, new Step('o', other.get(last).w(), n));
            if (tellable(d)) {
                all.put(n, Math.abs(baked(loaf.flour, d).worth() - own));
            }
        }
        return least(all);
    }

    int even() {
        if (loaf == null) {
            return STATE;
        }
        int first = firstRest();
        if (first < 0) {
            return found(3);
        }
        TreeMap<Integer, Integer> all = new TreeMap<>();
        for (int w = 0; w <= 9; w++) {
            for (int n = 5; n <= 30; n += 5) {
                List<Step> d = with(loaf.steps, first, new Step('r', w, n));
                if (tellable(d)) {
                    all.put(100 * w + n, baked(loaf.flour, d).unlike(new int[24]));
                }
            }
        }
        return least(all);
    }

    int slip(int doing, int height) {
        if (!in(doing, 0, 3) || !in(height, 0, 999)) {
            return BAD;
        }
        if (slips.size() == 12) {
            return FULL;
        }
        slips.add(new int[] {doing, height});
        return slips.size() - 1;
    }

    int told(int s, int what) {
        if (!in(s, 0, slips.size() - 1) || !in(what, 0, 1)) {
            return BAD;
        }
        return tell(1, slips.get(s)[what]);
    }

    private int lackOfLaw(int flour) {
        if (flours[flour] == null) {
            return 1;
        }
        if (slips.isEmpty()) {
            return 4;
        }
        for (int[] s : slips) {
            if (doings.get(s[0]) == null) {
                return 1;
            }
        }
        return 0;
    }

    private int[] byLaw(int flour, int law) {
        int[] f = flours[flour].clone();
        f[0] = law / 100;
        f[1] = law % 100;
        return f;
    }

    private TreeMap<Integer, Integer> offs(int flour) {
        TreeMap<Integer, Integer> all = new TreeMap<>();
        for (int y = 1; y <= 9; y++) {
            for (int s = 10; s <= 90; s += 10) {
                Map<Integer, Integer> tall = new HashMap<>();
                int off = 0;
                for (int[] slip : slips) {
                    int[] f = byLaw(flour, 100 * y + s);
                    int h = tall.computeIfAbsent(slip[0], d -> baked(f, doings.get(d)).tall());
                    off += Math.abs(h - slip[1]);
                }
                all.put(100 * y + s, off);
            }
        }
        return all;
    }

    int law(int flour) {
        if (!in(flour, 0, 3)) {
            return BAD;
        }
        int lack = lackOfLaw(flour);
        return lack != 0 ? found(lack) : least(offs(flour));
    }

    int spans(int flour, int v, int doing, boolean most) {
        if (!in(flour, 0, 3) || !in(v, 0, 999) || !in(doing, 0, 3)) {
            return BAD;
        }
        int lack = flours[flour] == null || doings.get(doing) == null ? 1 : lackOfLaw(flour);
        if (lack != 0) {
            return found(lack);
        }
        TreeMap<Integer, Integer> all = offs(flour);
        int least = java.util.Collections.min(all.values());
        List<Integer> heights = new ArrayList<>();
        all.forEach((law, off) -> {
            if (off <= least + v) {
                heights.add(baked(byLaw(flour, law), doings.get(doing)).tall());
            }
        });
        return tell(heights.size(), most ? java.util.Collections.max(heights) : java.util.Collections.min(heights));
    }

    int foretell(int flour, int doing) {
        if (!in(flour, 0, 3) || !in(doing, 0, 3)) {
            return BAD;
        }
        int lack = flours[flour] == null || doings.get(doing) == null ? 1 : lackOfLaw(flour);
        if (lack != 0) {
            return found(lack);
        }
        Bread b = baked(byLaw(flour, least(offs(flour))), doings.get(doing));
        return tell(b.tall(), b.worth());
    }

    int asked() {
        return asked;
    }

    long upper() {
        return upper;
    }

    long lower() {
        return lower;
    }

    int finding() {
        return finding;
    }

    int count(int what) {
        int[] n = new int[9];
        for (int k = 0; k < 4; k++) {
            n[0] += flours[k] == null ? 0 : 1;
            n[1] += doings.get(k) == null ? 0 : 1;
            n[8] += texts[k] == null ? 0 : 1;
        }
        if (loaf != null) {
            n[2] = loaf.turn;
            n[3] = loaf.falls.size();
            for (Fall f : loaf.falls) {
                n[4] += f.kind() == 4 || f.kind() == 5 ? 1 : 0;
            }
        }
        for (Bread b : kept) {
            n[5] += b == null ? 0 : 1;
        }
        n[6] = slips.size();
        for (int[] r : rows) {
            n[7] += r == null ? 0 : 1;
        }
        return in(what, 0, 8) ? n[what] : BAD;
    }

    int findings(int f) {
        return in(f, 1, 5) ? findings[f] : BAD;
    }

    long digest() {
        List<Integer> all = new ArrayList<>();
        for (int what = 0; what < 9; what++) {
            all.add(count(what));
        }
        for (int[] f : flours) {
            addAll(all, f == null ? new int[] {-1} : f);
        }
        for (List<Step> d : doings) {
            if (d == null) {
                all.add(-1);
                continue;
            }
            for (Step s : d) {
                all.add(s.number());
                all.add(100 * s.w() + s.n());
            }
        }
        if (loaf == null) {
            all.add(-1);
        } else {
            for (int[] c : loaf.cells) {
                addAll(all, c);
            }
            for (Fall f : loaf.falls) {
                addAll(all, new int[] {f.kind(), f.cell(), f.gas(), f.turn()});
            }
        }
        for (int[] s : slips) {
            addAll(all, s);
        }
        for (int[] r : rows) {
            all.add(r == null ? -1 : r.length);
            addAll(all, r == null ? new int[0] : r);
        }
        for (byte[] t : texts) {
            all.add(t == null ? -1 : t.length);
            for (int i = 0; t != null && i < t.length; i++) {
                all.add((int) t[i]);
            }
        }
        long h = 17;
        for (int v : all) {
            h = 31 * h + v;
        }
        return h;
    }

    private static void addAll(List<Integer> all, int[] more) {
        for (int v : more) {
            all.add(v);
        }
    }
}

import java.util.Random;

/** Runs of calls, drawn by fixed seeds, on LoafFall and on the slow Model: each answer is the same. */
public final class ModelTest {
    private static final int RUNS = 500;
    private static final int CALLS = 512;

    private final Random random;
    private final LoafFall x = new LoafFall();
    private final Model m = new Model();
    private final int run;
    private final int[] shown = new int[48];

    private ModelTest(int run) {
        this.run = run;
        random = new Random(run);
    }

    private static int wrong;
    private static long answers;

    public static void main(String[] args) {
        int[] shown = new int[48];
        for (int run = 0; run < RUNS && wrong < 20; run++) {
            ModelTest t = new ModelTest(run);
            for (int n = 0; n < CALLS && wrong < 20; n += t.next()) {
                t.compareState();
            }
            for (int i = 0; i < shown.length; i++) {
                shown[i] += t.shown[i];
            }
        }
        for (int i = 1; i <= 40; i++) {
            if (shown[i] == 0) {
                wrong++;
                System.out.println("ModelTest: call " + i + " was never answered otherwise than refused");
            }
        }
        System.out.println("ModelTest: " + answers + " answers, " + wrong + " not as due");
        if (wrong != 0) {
            System.exit(1);
        }
    }

    private void same(int number, String call, long got, long due) {
        answers++;
        if (got >= 0) {
            shown[number]++;
        }
        if (got != due) {
            wrong++;
            System.out.println("ModelTest: run " + run + ": " + call + " answered " + got + ", due is " + due);
        }
    }

    private void compareState() {
        same(0, "asked()", x.asked(), m.asked);
        same(0, "upper()", x.upper(), m.upper);
        same(0, "lower()", x.lower(), m.lower);
        same(0, "finding()", x.finding(), m.finding);
        same(0, "digest()", x.digest(), m.digest());
        for (int f = 0; f <= 6; f++) {
            same(0, "findings(" + f + ")", x.findings(f), m.findings(f));
        }
        for (int what = -1; what <= 9; what++) {
            same(0, "count(" + what + ")", x.count(what), m.count(what));
        }
    }

    /** A number of 0 .. most, now and then one that is none. */
    private int num(int most) {
        int wild = random.nextInt(60);
        if (wild == 0) {
            return -1;
        }
        if (wild == 1) {
            return most + 1;
        }
        if (wild == 2) {
            return random.nextInt();
        }
        return random.nextInt(most + 1);
    }

    private String flourText() {
        StringBuilder s = new StringBuilder();
        int items = random.nextInt(6);
        for (int i = 0; i < items; i++) {
            s.append(" ".repeat(random.nextInt(3) / 2));
            char letter = "ysewt".charAt(random.nextInt(5));
            s.append(letter).append(letter == 's' ? 10 + random.nextInt(90) : random.nextInt(10));
        }
        return s.toString();
    }

    private String doingText() {
        StringBuilder s = new StringBuilder();
        int steps = random.nextInt(4) == 0 ? random.nextInt(12) : 1 + random.nextInt(5);
        int most = random.nextInt(3) == 0 ? 31 : 12;
        for (int i = 0; i < steps; i++) {
            s.append(" ".repeat(random.nextInt(3) / 2));
            char letter = "rrrooookxd".charAt(random.nextInt(10));
            s.append(letter);
            if (letter == 'r' || letter == 'o') {
                int w = letter == 'o' && random.nextInt(3) > 0 ? 5 + random.nextInt(5) : random.nextInt(7);
                s.append(w).append(':').append(1 + random.nextInt(most));
            }
        }
        return s.toString();
    }

    /** Now and then a sign of a TEXT is another one, or it ends too early. */
    private String spoiled(String s) {
        if (s.isEmpty() || random.nextInt(4) != 0) {
            return s;
        }
        int i = random.nextInt(s.length());
        if (random.nextInt(3) == 0) {
            return s.substring(0, i);
        }
        String signs = " yrosewtkxd:0123456789z";
        char other = random.nextInt(8) == 0 ? (char) random.nextInt(256) : signs.charAt(random.nextInt(signs.length()));
        return s.substring(0, i) + other + s.substring(i + 1);
    }

    private int write(int t, String s) {
        int size = Math.min(80, s.length());
        same(7, "text", x.text(t, size), m.text(t, size));
        for (int i = 0; i < size; i++) {
            same(8, "put", x.put(t, i, s.charAt(i)), m.put(t, i, s.charAt(i)));
        }
        return size + 1;
    }

    /** One call (or a few that make up a TEXT): how many. */
    private int next() {
        int kind = random.nextInt(100);
        if (kind < 10) {
            int t = random.nextInt(4);
            int k = num(3);
            String s = spoiled(flourText());
            int n = write(t, s);
            same(9, "fault of " + s, x.fault(t, false), m.fault(t, false));
            same(10, "flour of " + s, x.flour(k, t), m.flour(k, t));
            return n + 2;
        }
        if (kind < 22) {
            int t = random.nextInt(4);
            int k = num(3);
            String s = spoiled(doingText());
            int n = write(t, s);
            same(9, "fault of " + s, x.fault(t, true), m.fault(t, true));
            same(11, "doing of " + s, x.doing(k, t), m.doing(k, t));
            return n + 2;
        }
        if (kind < 40) {
            rowCall();
        } else if (kind < 75) {
            loafCall();
        } else {
            askCall();
        }
        return 1;
    }

    private void rowCall() {
        int r = num(5);
        int i = num(random.nextInt(2) == 0 ? 23 : 40);
        int v = random.nextInt(3) == 0 ? random.nextInt() : random.nextInt(4);
        switch (random.nextInt(10)) {
            case 0 -> same(1, "row(" + r + ", " + i + ")", x.row(r, i), m.row(r, i));
            case 1, 2, 3 -> same(2, "lay(" + r + ", " + i + ", " + v + ")", x.lay(r, i, v), m.lay(r, i, v));
            case 4 -> same(3, "at(" + r + ", " + i + ")", x.at(r, i), m.at(r, i));
            case 5 -> same(4, "tear(" + r + ")", x.tear(r), m.tear(r));
            case 6, 7 -> {
                int to = num(5);
                int j = num(10);
                int n = num(random.nextInt(2) == 0 ? 3 : 40);
                int from = i % 12;
                same(5, "copy(" + r + ", " + from + ", " + to + ", " + j + ", " + n + ")",
                        x.copy(r, from, to, j, n), m.copy(r, from, to, j, n));
            }
            case 8 -> same(6, "mean(" + r + ")", x.mean(r), m.mean(r));
            default -> {
                int t = num(3);
                same(8, "put(" + t + ", " + i + ", " + v + ")", x.put(t, i, v), m.put(t, i, v));
                same(7, "text(" + t + ", " + i + ")", x.text(t, i), m.text(t, i));
            }
        }
    }

    private void loafCall() {
        int k = num(3);
        int what = num(4);
        int c = num(23);
        int n = num(random.nextInt(6) == 0 ? 99 : 12);
        switch (random.nextInt(20)) {
            case 0 -> same(12, "about(" + k + ", " + what + ")", x.about(k, what), m.about(k, what));
            case 1 -> same(13, "step(" + k + ", " + n + ")", x.step(k, n), m.step(k, n));
            case 2, 3 -> {
                int d = num(3);
                same(14, "loaf(" + k + ", " + d + ")", x.loaf(k, d), m.loaf(k, d));
            }
            case 4, 5, 6, 7, 8 -> same(15, "go(" + n + ")", x.go(n), m.go(n));
            case 9 -> same(16, "cell(" + c + ", " + what + ")", x.cell(c, what), m.cell(c, what));
            case 10 -> same(17, "fall(" + c + ", " + what + ")", x.fall(c, what), m.fall(c, what));
            case 11, 12, 13 -> allMarks();
            case 14 -> same(19, "keep(" + k + ")", x.keep(k), m.keep(k));
            case 15 -> same(20, "on(" + k + ")", x.on(k), m.on(k));
            case 16 -> same(21, "height()", x.height(), m.height());
            case 17 -> same(22, "holes()", x.holes(), m.holes());
            case 18 -> same(23, "cut(" + k + ")", x.cut(k), m.cut(k));
            default -> same(24, "rests(" + n + ")", x.rests(n), m.rests(n));
        }
    }

    private void allMarks() {
        int k = num(23);
        for (int kind = 0; kind <= 7; kind++) {
            same(18, "mark(" + k + ", " + kind + ")", x.mark(k, kind), m.mark(k, kind));
        }
    }

    private void askCall() {
        int f = num(3);
        int d = num(3);
        int r = num(5);
        int n = num(9);
        switch (random.nextInt(26)) {
            case 0, 1 -> same(25, "why(" + r + ")", x.why(r), m.why(r));
            case 2, 3 -> same(26, "odds(" + r + ", " + f + ")", x.odds(r, f), m.odds(r, f));
            case 4, 5 -> same(27, "sprout(" + f + ", " + d + ", " + r + ")", x.sprout(f, d, r), m.sprout(f, d, r));
            case 6, 7 -> same(28, "rack(" + f + ", " + d + ", " + r + ")", x.rack(f, d, r), m.rack(f, d, r));
            case 8, 9 -> same(29, "change()", x.change(), m.change());
            case 10 -> same(30, "changes()", x.changes(), m.changes());
            case 11, 12 -> same(31, "wide(" + n + ")", x.wide(n), m.wide(n));
            case 13, 14 -> same(32, "flours(" + d + ")", x.flours(d), m.flours(d));
            case 15 -> same(33, "begin(" + n + ")", x.begin(n), m.begin(n));
            case 16, 17 -> {
                int off = num(4) - 2;
                same(34, "oven(" + off + ")", x.oven(off), m.oven(off));
            }
            case 18 -> same(35, "even()", x.even(), m.even());
            case 19, 20 -> {
                int h = num(random.nextInt(3) == 0 ? 999 : 250);
                same(36, "slip(" + d + ", " + h + ")", x.slip(d, h), m.slip(d, h));
            }
            case 21 -> same(37, "told(" + n + ", " + f % 2 + ")", x.told(n, f % 2), m.told(n, f % 2));
            case 22, 23 -> same(38, "law(" + f + ")", x.law(f), m.law(f));
            case 24 -> {
                int v = num(random.nextInt(3) == 0 ? 999 : 30);
                boolean most = random.nextBoolean();
                same(39, "spans(" + f + ", " + v + ", " + d + ", " + most + ")",
                        x.spans(f, v, d, most), m.spans(f, v, d, most));
            }
            default -> same(40, "foretell(" + f + ", " + d + ")", x.foretell(f, d), m.foretell(f, d));
        }
    }
}

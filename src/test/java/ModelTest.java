import java.util.Random;

/** All promises: runs of calls drawn from fixed seeds, each answer compared with the model's. */
final class ModelTest {
    private static final int RUNS = 1500;
    private static final int CALLS = 512;

    private final Random random;
    private final OthersMan x = new OthersMan();
    private final Model model = new Model();
    private final int run;
    private int wide = 4;
    private int high = 4;
    private int laws = 0;

    private ModelTest(int run) {
        this.run = run;
        random = new Random(run);
    }

    public static void main(String[] args) {
        for (int run = 0; run < RUNS; run++) new ModelTest(run).play();
        Checks.end();
    }

    private void play() {
        for (int call = 0; call < CALLS; ) {
            if (call == 0 || random.nextInt(90) == 0) call += read(text());
            call += random.nextInt(3) == 0 ? ask() : walk();
        }
    }

    private void due(String call, long got, long want) {
        Checks.due("run " + run + ": " + call, got, want);
    }

    private int read(String text) {
        int calls = 1;
        for (int i = 0; i < text.length(); i += 8) {
            String part = text.substring(i, Math.min(i + 8, text.length()));
            long v = Checks.packed(part);
            due("type", x.type(v, part.length()), model.type(v, part.length()));
            calls++;
        }
        due("board '" + text + "'", x.board(), model.board());
        if (random.nextInt(4) != 0) due("clear", x.clear(), model.clear());
        return calls + 1;
    }

    private String text() {
        StringBuilder s = new StringBuilder();
        wide = 4;
        high = 4;
        laws = 0;
        if (random.nextInt(4) != 0) {
            wide = 2 + random.nextInt(3);
            high = 2 + random.nextInt(3);
            s.append("board ").append(wide).append(' ').append(high).append(';');
        }
        int items = 3 + random.nextInt(12);
        boolean calm = random.nextInt(4) == 0;
        for (int i = 0; i < items; i++) s.append(item(calm));
        if (random.nextInt(12) == 0) s.setCharAt(random.nextInt(s.length()), " ;0123abx".charAt(random.nextInt(9)));
        if (random.nextInt(30) == 0) s.insert(random.nextInt(s.length()), (char) random.nextInt(256));
        if (random.nextInt(30) == 0) s.setLength(random.nextInt(s.length()));
        return s.length() > 300 ? s.substring(0, 300) : s.toString();
    }

    private String item(boolean calm) {
        String xy = random.nextInt(wide) + " " + random.nextInt(high) + ";";
        switch (random.nextInt(10)) {
            case 0: return calm ? "" : "pit " + xy;
            case 1: return "bell " + xy;
            case 2: return "wall " + xy;
            case 3: return "man " + random.nextInt(2) + " " + xy;
            case 4: return "home " + random.nextInt(2) + " " + xy;
            case 5: return laws == 0 ? "" : "uses " + random.nextInt(2) + " " + random.nextInt(laws) + ";";
            case 6: return "refuses " + random.nextInt(2) + " " + random.nextInt(3) + ";";
            default: return laws >= 3 ? "" : law();
        }
    }

    private String law() {
        laws++;
        StringBuilder s = new StringBuilder("law ").append(1 + random.nextInt(3) / 2);
        boolean[] told = new boolean[8];
        for (int i = 1 + random.nextInt(5); i > 0; i--) {
            int d = random.nextInt(8);
            if (!told[d]) s.append(' ').append(d);
            told[d] = true;
        }
        return s.append(';').toString();
    }

    /** A direction that may be told, as a rule. */
    private int direction() {
        int may = model.man(1 - model.now(0), 4);
        if (may == 0 || random.nextInt(12) == 0) return random.nextInt(10) - 1;
        int d = random.nextInt(8);
        while ((may >> d & 1) == 0) d = (d + 1) % 8;
        return d;
    }

    private int walk() {
        int d = direction();
        switch (random.nextInt(12)) {
            case 0:
            case 1: due("refuse " + d, x.refuse(d), model.refuse(d)); break;
            case 2: due("pass", x.pass(), model.pass()); break;
            case 3: if (random.nextInt(9) == 0) due("anew", x.anew(), model.anew()); break;
            case 4: keepOrBack(); break;
            default:
                if (model.now(2) != 0 && random.nextInt(3) == 0) due("anew", x.anew(), model.anew());
                else if (model.man(1 - model.now(0), 4) == 0) due("pass", x.pass(), model.pass());
                else due("tell " + d, x.tell(d), model.tell(d));
        }
        int what = random.nextInt(6) - 1;
        due("now " + what, x.now(what), model.now(what));
        return 2;
    }

    private void keepOrBack() {
        int image = random.nextInt(3);
        if (random.nextInt(3) != 0) due("keep " + image, x.keep(image), model.keep(image));
        else due("back " + image, x.back(image), model.back(image));
    }

    private int ask() {
        int m = random.nextInt(20) == 0 ? random.nextInt(4) - 1 : random.nextInt(2);
        int n = random.nextInt(30) == 0 ? random.nextInt(14) - 2 : random.nextInt(wide * high > 9 ? 3 : 4);
        int i = random.nextInt(4);
        int j = random.nextInt(4);
        switch (random.nextInt(20)) {
            case 0: due("cell", x.cell(i, j), model.cell(i, j)); break;
            case 1: due("law", x.law(i, j), model.law(i, j)); break;
            case 2: due("man", x.man(m, i + j - 1), model.man(m, i + j - 1)); break;
            case 3: due("safe", x.safe(m, n + i), model.safe(m, n + i)); break;
            case 4: due("safest", x.safest(m), model.safest(m)); break;
            case 5:
            case 6: due("value " + n, x.value(n), model.value(n)); break;
            case 7:
            case 8: due("best " + n, x.best(n), model.best(n)); break;
            case 9:
            case 10: askRefuses(n); break;
            case 11: due("worth " + m + n, x.worth(m, n), model.worth(m, n)); break;
            case 12: due("bag " + i + j + n, x.bag(i, j, n), model.bag(i, j, n)); break;
            case 13: due("fairest " + n, x.fairest(n), model.fairest(n)); break;
            case 14: due("even " + n, x.even(n), model.even(n)); break;
            case 15: due("rounds", x.rounds(n), model.rounds(n)); break;
            case 16: askLot(random.nextInt()); break;
            case 17: due("rate", x.rate(i + j - 1, m), model.rate(i + j - 1, m)); break;
            case 18: due("count", x.count(i + j), model.count(i + j)); break;
            default: due("trace", x.trace(), model.trace());
        }
        return 1;
    }

    private void askLot(int v) {
        due("lot " + v, x.lot(v), model.lot(v));
    }

    private void askRefuses(int n) {
        int d = direction();
        due("refuses " + d + " " + n, x.refuses(d, n), model.refuses(d, n));
    }
}

import java.util.Random;

/** Promises 15 to 21 as far ahead as they may look, on drawn boards that are small, with bells and refusals, against the model. */
final class DeepTest {
    private static final int BOARDS = 6000;

    private final Random random;
    private final OthersMan x = new OthersMan();
    private final Model model = new Model();
    private final String text;

    private DeepTest(int seed) {
        random = new Random(seed);
        text = text();
        for (int i = 0; i < text.length(); i += 8) {
            String part = text.substring(i, Math.min(i + 8, text.length()));
            x.type(Checks.packed(part), part.length());
            model.type(Checks.packed(part), part.length());
        }
        due("board()", x.board(), model.board());
    }

    public static void main(String[] args) {
        for (int seed = 0; seed < BOARDS; seed++) {
            DeepTest deep = new DeepTest(seed);
            deep.ask();
            deep.walk();
            deep.ask();
        }
        Checks.end();
    }

    private void due(String call, long got, long want) {
        Checks.due("'" + text + "' " + call, got, want);
    }

    private String text() {
        int high = 2 + random.nextInt(2);
        StringBuilder s = new StringBuilder("board 3 ").append(high).append(';');
        for (int i = 0; i < 2; i++) s.append(law());
        String[] kinds = {"pit", "bell", "bell", "wall", "pit"};
        for (int i = random.nextInt(4); i >= 0; i--) s.append(kinds[random.nextInt(5)]).append(cell(high));
        for (int m = 0; m < 2; m++) {
            s.append("home ").append(m).append(cell(high)).append("uses ").append(m).append(' ').append(random.nextInt(2));
            s.append(";refuses ").append(m).append(' ').append(random.nextInt(3)).append(';');
        }
        return s.toString();
    }

    private String cell(int high) {
        return " " + random.nextInt(3) + " " + random.nextInt(high) + ";";
    }

    private String law() {
        int first = random.nextInt(8);
        int second = (first + 1 + random.nextInt(6)) % 8;
        String third = random.nextInt(3) != 0 ? " " + (first + 7) % 8 : "";
        return "law " + (1 + random.nextInt(4) / 3) + " " + first + " " + second + third + ";";
    }

    private void walk() {
        for (int i = random.nextInt(4); i >= 0; i--) {
            int may = model.man(1 - model.now(0), 4);
            int d = random.nextInt(8);
            for (int k = 0; k < 8 && (may >> d & 1) == 0; k++) d = (d + 1) % 8;
            if (may == 0) due("pass()", x.pass(), model.pass());
            else if (random.nextInt(3) == 0) due("refuse " + d, x.refuse(d), model.refuse(d));
            else due("tell " + d, x.tell(d), model.tell(d));
        }
    }

    private void ask() {
        for (int n = 4; n <= 5; n++) {
            due("value " + n, x.value(n), model.value(n));
            due("best " + n, x.best(n), model.best(n));
            for (int d = 0; d < 8; d++) due("refuses " + d + " " + n, x.refuses(d, n), model.refuses(d, n));
        }
        for (int m = 0; m < 2; m++) due("worth " + m, x.worth(m, 4), model.worth(m, 4));
        for (int i = 0; i < 4; i++) due("bag " + i / 2 + i % 2, x.bag(i / 2, i % 2, 4), model.bag(i / 2, i % 2, 4));
        due("fairest", x.fairest(3), model.fairest(3));
        due("even", x.even(4), model.even(4));
    }
}

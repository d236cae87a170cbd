/** What the tests share: answers that are due, texts typed eight bytes at a time. */
final class Checks {
    private static int wrong = 0;
    private static int asked = 0;

    private Checks() { }

    static void due(String what, long got, long want) {
        asked++;
        if (got == want) return;
        wrong++;
        if (wrong <= 40) System.out.println(what + " answered " + got + ", due is " + want);
    }

    static int typed(OthersMan x, String text) {
        int length = -99;
        for (int i = 0; i < text.length(); i += 8) {
            String part = text.substring(i, Math.min(i + 8, text.length()));
            length = x.type(packed(part), part.length());
        }
        return length;
    }

    static long packed(String part) {
        long v = 0;
        for (int i = 0; i < part.length(); i++) v = v << 8 | part.charAt(i) & 255;
        return v;
    }

    /** A new object that has read a text without a fault. */
    static OthersMan told(String text) {
        OthersMan x = new OthersMan();
        typed(x, text);
        int items = x.board();
        due("board() of '" + text + "'", items, text.chars().filter(c -> c == ';').count());
        return x;
    }

    /** What board() answers to a text on a new object. */
    static int read(String text) {
        OthersMan x = new OthersMan();
        typed(x, text);
        return x.board();
    }

    static void end() {
        System.out.println(asked + " answers, " + wrong + " of them not as due");
        if (wrong != 0) System.exit(1);
    }
}

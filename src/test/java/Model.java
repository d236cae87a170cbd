import java.util.ArrayList;
import java.util.List;
import java.util.regex.Matcher;
import java.util.regex.Pattern;

/**
 * The document once more, as plainly as it can be said: every position is a new object, nothing is
 * remembered, and all that is reckoned plays real steps on copies. For comparing, not for speed.
 */
final class Model {
    private static final int BAD = -1, STATE = -2, FULL = -3, NONE = -9, NO = -1000000;
    private static final List<String> WORDS =
        List.of("board", "pit", "bell", "wall", "law", "man", "home", "uses", "refuses");
    private static final int[][] WAY = {{0, -1}, {1, -1}, {1, 0}, {1, 1}, {0, 1}, {-1, 1}, {-1, 0}, {-1, -1}};

    private StringBuilder text = new StringBuilder();
    private Game game = new Game();
    private Pos pos = new Pos(game);
    private final Pos[] images = new Pos[2];
    private final int[] imageLots = new int[2];
    private int lot = 1;
    private long trace;

    /** What a text tells. */
    private static final class Game {
        int w = 4, h = 4;
        int[][] kind = new int[4][4];
        List<List<Integer>> laws = new ArrayList<>();
        int[][] start = {{0, 0}, {3, 3}};
        int[][] home = {{3, 3}, {0, 0}};
        int[] law = {0, 0};
        int[] refusals = {1, 1};

        Game copy() {
            Game g = new Game();
            g.w = w;
            g.h = h;
            g.kind = kind;
            g.laws = laws;
            for (int m = 0; m < 2; m++) {
                g.start[m] = start[m];
                g.home[m] = home[m];
                g.law[m] = law[m];
                g.refusals[m] = refusals[m];
            }
            return g;
        }
    }

    /** A position, and how the walk stands. */
    private static final class Pos {
        Game g;
        int[][] at = new int[2][];
        int[] left = new int[2];
        int teller, barred = NONE, steps, over;

        Pos(Game game) {
            g = game;
            for (int m = 0; m < 2; m++) {
                at[m] = g.start[m].clone();
                left[m] = g.refusals[m];
            }
        }

        Pos copy() {
            Pos p = new Pos(g);
            for (int m = 0; m < 2; m++) {
                p.at[m] = at[m].clone();
                p.left[m] = left[m];
            }
            p.teller = teller;
            p.barred = barred;
            p.steps = steps;
            p.over = over;
            return p;
        }

        int[] target(int m, int d) {
            return targetOf(g, g.law[m], at[m], d);
        }

        boolean may(int m, int d) {
            int[] t = target(m, d);
            return t != null && !(t[0] == at[1 - m][0] && t[1] == at[1 - m][1]);
        }

        List<Integer> mays(int m) {
            List<Integer> all = new ArrayList<>();
            for (int d = 0; d < 8; d++) if (may(m, d)) all.add(d);
            return all;
        }

        Pos stepped(int d) {
            Pos p = copy();
            int m = 1 - teller;
            p.at[m] = target(m, d);
            p.barred = NONE;
            p.steps++;
            int kind = g.kind[p.at[m][1]][p.at[m][0]];
            boolean home = p.at[m][0] == g.home[m][0] && p.at[m][1] == g.home[m][1];
            if (kind == 1) p.over = 2 - m;
            else if (home) p.over = 1 + m;
            else if (kind != 2) p.teller = m;
            if (p.over == 0 && p.steps == 99) p.over = 3;
            return p;
        }

        Pos passed() {
            Pos p = copy();
            p.teller = 1 - teller;
            p.barred = NONE;
            p.steps++;
            if (p.steps == 99) p.over = 3;
            return p;
        }

        Pos refused(int d) {
            Pos p = copy();
            p.left[1 - teller]--;
            p.barred = d;
            return p;
        }

        boolean mayRefuse(int d) {
            int m = 1 - teller;
            return barred == NONE && left[m] > 0 && mays(m).size() > 1;
        }

        List<Integer> tellable() {
            List<Integer> all = mays(1 - teller);
            all.remove(Integer.valueOf(barred));
            return all;
        }

        int value(int n) {
            if (over != 0) return over == 1 ? 1 : over == 2 ? -1 : 0;
            if (n == 0) return 0;
            List<Integer> all = tellable();
            if (all.isEmpty()) return passed().value(n - 1);
            int most = told(all.get(0), n);
            for (int d : all) most = teller == 0 ? Math.max(most, told(d, n)) : Math.min(most, told(d, n));
            return most;
        }

        int told(int d, int n) {
            int done = stepped(d).value(n - 1);
            if (!mayRefuse(d)) return done;
            int refused = refused(d).value(n);
            return teller == 0 ? Math.min(done, refused) : Math.max(done, refused);
        }
    }

    private static int[] targetOf(Game g, int law, int[] from, int d) {
        if (law >= g.laws.size()) return null;
        List<Integer> l = g.laws.get(law);
        if (!l.subList(1, l.size()).contains(d)) return null;
        int x = from[0] + WAY[d][0] * l.get(0);
        int y = from[1] + WAY[d][1] * l.get(0);
        if (x < 0 || y < 0 || x >= g.w || y >= g.h || g.kind[y][x] == 3) return null;
        return new int[] {x, y};
    }

    int type(long v, int n) {
        if (n < 1 || n > 8) return BAD;
        if (text.length() + n > 300) return FULL;
        for (int i = n - 1; i >= 0; i--) text.append((char) ((v >>> (8 * i)) & 0xff));
        return text.length();
    }

    int clear() {
        int had = text.length();
        text = new StringBuilder();
        return had;
    }

    int board() {
        Game g = new Game();
        int items = 0;
        List<String> item = new ArrayList<>();
        Matcher m = Pattern.compile("[a-z]+|[0-9]+|[^ ]", Pattern.DOTALL).matcher(text);
        while (m.find()) {
            String token = m.group();
            if (!fits(g, items, item, token)) return -10 - m.start();
            item.add(token);
            if (token.equals(";")) {
                tell(g, item);
                items++;
                item = new ArrayList<>();
            }
        }
        if (!item.isEmpty()) return -10 - text.length();
        text = new StringBuilder();
        game = g;
        pos = new Pos(g);
        images[0] = null;
        images[1] = null;
        return items;
    }

    private static boolean fits(Game g, int items, List<String> item, String token) {
        if (item.isEmpty()) {
            if (token.equals("board")) return items == 0;
            if (token.equals("law")) return g.laws.size() < 3;
            return WORDS.contains(token);
        }
        int told = item.size() - 1;
        String word = item.get(0);
        int needed = word.equals("man") || word.equals("home") ? 3 : 2;
        if (token.equals(";")) return word.equals("law") ? told >= 2 : told == needed;
        if (!token.matches("0|[1-9][0-9]?")) return false;
        if (!word.equals("law") && told >= needed) return false;
        int v = Integer.parseInt(token);
        switch (word) {
            case "board": return v >= 2 && v <= 4;
            case "law": return told == 0 ? v == 1 || v == 2 : v <= 7 && !item.subList(2, item.size()).contains(token);
            case "uses": return told == 0 ? v < 2 : v < g.laws.size();
            case "refuses": return told == 0 ? v < 2 : v < 3;
            case "man": case "home":
                if (told == 0) return v < 2;
                if (told == 1) return v < g.w;
                if (v >= g.h) return false;
                return word.equals("home") || g.kind[v][Integer.parseInt(item.get(2))] % 2 == 0;
            default: return told == 0 ? v < g.w : v < g.h;
        }
    }

    private static void tell(Game g, List<String> item) {
        List<Integer> v = new ArrayList<>();
        for (String s : item.subList(1, item.size() - 1)) v.add(Integer.parseInt(s));
        switch (item.get(0)) {
            case "board":
                g.w = v.get(0);
                g.h = v.get(1);
                g.start[1] = new int[] {g.w - 1, g.h - 1};
                g.home[0] = new int[] {g.w - 1, g.h - 1};
                break;
            case "law": g.laws.add(v); break;
            case "man": g.start[v.get(0)] = new int[] {v.get(1), v.get(2)}; break;
            case "home": g.home[v.get(0)] = new int[] {v.get(1), v.get(2)}; break;
            case "uses": g.law[v.get(0)] = v.get(1); break;
            case "refuses": g.refusals[v.get(0)] = v.get(1); break;
            default: g.kind[v.get(1)][v.get(0)] = WORDS.indexOf(item.get(0));
        }
    }

    int cell(int x, int y) {
        return x < 0 || y < 0 || x >= game.w || y >= game.h ? BAD : game.kind[y][x];
    }

    int law(int l, int what) {
        if (l < 0 || l >= game.laws.size() || what < 0 || what > 1) return BAD;
        List<Integer> law = game.laws.get(l);
        if (what == 0) return law.get(0);
        int bits = 0;
        for (int d : law.subList(1, law.size())) bits += 1 << d;
        return bits;
    }

    private int number(int[] xy) {
        return game.w * xy[1] + xy[0];
    }

    int man(int m, int what) {
        if (m < 0 || m > 1 || what < 0 || what > 4) return BAD;
        if (what == 0) return number(pos.at[m]);
        if (what == 1) return number(game.home[m]);
        if (what == 2) return game.laws.isEmpty() ? NONE : game.law[m];
        if (what == 3) return pos.left[m];
        int bits = 0;
        for (int d : pos.mays(m)) bits += 1 << d;
        return bits;
    }

    private int why(int d) {
        if (d < 0 || d > 7) return BAD;
        if (pos.over != 0) return STATE;
        return pos.tellable().contains(d) ? 0 : BAD;
    }

    int tell(int d) {
        if (why(d) != 0) return why(d);
        pos = pos.stepped(d);
        return pos.over;
    }

    int refuse(int d) {
        if (why(d) != 0) return why(d);
        if (!pos.mayRefuse(d)) return STATE;
        pos = pos.refused(d);
        return pos.left[1 - pos.teller];
    }

    int pass() {
        if (pos.over != 0 || !pos.mays(1 - pos.teller).isEmpty()) return STATE;
        pos = pos.passed();
        return pos.over;
    }

    int now(int what) {
        int[] all = {pos.teller, pos.steps, pos.over, pos.barred};
        return what < 0 || what > 3 ? BAD : all[what];
    }

    int anew() {
        int had = pos.steps;
        pos = new Pos(game);
        return had;
    }

    private boolean isSafe(int law, int[] xy, int n) {
        if (game.kind[xy[1]][xy[0]] == 1) return false;
        if (n == 0) return true;
        for (int d = 0; d < 8; d++) {
            int[] t = targetOf(game, law, xy, d);
            if (t != null && !isSafe(law, t, n - 1)) return false;
        }
        return true;
    }

    int safe(int m, int n) {
        if (m < 0 || m > 1 || n < 0 || n > 9) return BAD;
        int bits = 0;
        for (int y = 0; y < game.h; y++) {
            for (int x = 0; x < game.w; x++) {
                int[] xy = {x, y};
                if (game.kind[y][x] != 3 && isSafe(game.law[m], xy, n)) bits += 1 << number(xy);
            }
        }
        return bits;
    }

    int safest(int m) {
        if (m < 0 || m > 1) return BAD;
        for (int n = 9; n >= 0; n--) if ((safe(m, n) >> number(pos.at[m]) & 1) == 1) return n;
        return NONE;
    }

    int value(int n) {
        return n < 0 || n > 5 ? NO : pos.value(n);
    }

    int best(int n) {
        if (n < 1 || n > 5) return BAD;
        if (pos.over != 0) return NONE;
        int most = pos.value(n);
        for (int d : pos.tellable()) if (pos.told(d, n) == most) return d;
        return NONE;
    }

    int refuses(int d, int n) {
        if (n < 1 || n > 5) return BAD;
        if (why(d) != 0) return why(d);
        if (!pos.mayRefuse(d)) return 0;
        int gain = pos.refused(d).value(n) - pos.stepped(d).value(n - 1);
        return (pos.teller == 0 ? gain < 0 : gain > 0) ? 1 : 0;
    }

    int worth(int m, int n) {
        if (m < 0 || m > 1 || n < 0 || n > 4) return NO;
        Pos p = pos.copy();
        p.left[m] = Math.min(2, p.left[m] + 1);
        return p.value(n) - pos.value(n);
    }

    int bag(int i, int j, int n) {
        int laws = game.laws.size();
        if (i < 0 || j < 0 || i >= laws || j >= laws || n < 0 || n > 4) return NO;
        Pos p = pos.copy();
        p.g = game.copy();
        p.g.law[0] = i;
        p.g.law[1] = j;
        return p.value(n);
    }

    int fairest(int n) {
        if (n < 0 || n > 3) return BAD;
        for (int i = 0; i < game.laws.size(); i++) {
            for (int j = 0; j < game.laws.size(); j++) {
                boolean fair = bag(i, j, n) == 0;
                for (int l = 0; l < game.laws.size(); l++) fair = fair && bag(l, j, n) <= 0 && bag(i, l, n) >= 0;
                if (fair) return 10 * i + j;
            }
        }
        return NONE;
    }

    int even(int n) {
        if (n < 0 || n > 4) return BAD;
        Pos p = pos.copy();
        p.g = game.copy();
        for (int m = 0; m < 2; m++) {
            p.at[m] = pos.at[1 - m];
            p.left[m] = pos.left[1 - m];
            p.g.home[m] = game.home[1 - m];
            p.g.law[m] = game.law[1 - m];
        }
        return pos.value(n) == 0 && p.value(n) == 0 ? 1 : 0;
    }

    int rounds(int k) {
        if (k < 1 || k > 99) return NO;
        int[] ends = new int[4];
        for (int i = 0; i < k; i++) {
            Pos p = new Pos(game);
            while (p.over == 0) {
                List<Integer> all = p.mays(1 - p.teller);
                if (all.isEmpty()) {
                    p = p.passed();
                    continue;
                }
                lot = lot * 1103515245 + 12345;
                int draw = (int) ((lot & 0xffffffffL) / 65536);
                p = p.stepped(all.get(draw % all.size()));
            }
            ends[p.over]++;
        }
        return ends[1] - ends[2];
    }

    int lot(int v) {
        int was = lot;
        lot = v;
        return was;
    }

    int rate(int kind, int m) {
        if (kind < 0 || kind > 5 || m < 0 || m > 1) return NO;
        int[] over = {-1, 0, 0, 1, 2, 0};
        int[] added = {1, 10, 100, 1000, 10000, 100000};
        trace += added[kind];
        if (kind == 0) return number(pos.at[m]);
        int up = rate(over[kind], m);
        int[] all = {0, up + pos.mays(m).size(), up + pos.left[m], 2 * up, up - number(game.home[m]), up - pos.steps};
        return all[kind];
    }

    int keep(int image) {
        if (image < 0 || image > 1) return BAD;
        images[image] = pos.copy();
        imageLots[image] = lot;
        return pos.steps;
    }

    int back(int image) {
        if (image < 0 || image > 1) return BAD;
        if (images[image] == null) return STATE;
        pos = images[image].copy();
        lot = imageLots[image];
        return pos.steps;
    }

    int count(int what) {
        if (what < 0 || what > 6) return BAD;
        if (what == 0) return game.w;
        if (what == 1) return game.h;
        if (what == 2) return game.laws.size();
        if (what == 6) return text.length();
        int found = 0;
        for (int[] row : game.kind) for (int k : row) if (k == what - 2) found++;
        return found;
    }

    long trace() {
        return trace;
    }
}

/** Promises 13 to 23: what is reckoned, and the lot, at the edges that the document names. */
final class ReckonEdges {
    private static final String ALL = "law 1 0 1 2 3 4 5 6 7;";
    private static final int[] AROUND = {1, 2, 5, 8, 7, 6, 3, 0};

    /** One way of eleven cells, and how far each cell is from its end, where the PIT is; walls are -1. */
    private static final String WAY = "wall 0 0;wall 1 0;wall 2 1;wall 1 2;law 1 0 2 4 6;";
    private static final int[] FROM_PIT = {-1, -1, 10, 9, 1, 0, -1, 8, 2, -1, 6, 7, 3, 4, 5, 6};

    /** Man 1 may just go left, in the first row; man 0 may not step, so B passes. */
    private static final String MAN_1_GOES = "board 4 3;law 1 6;law 1 2;uses 0 1;man 1 3 0;man 0 3 2;home 0 0 2;home 1 0 2;";
    /** The other way about: A passes. */
    private static final String MAN_0_GOES = "board 4 3;law 1 6;law 1 2;uses 1 1;man 0 3 0;man 1 3 2;home 0 0 2;home 1 0 2;";
    /** By n - 1 of these the man is lost in n of the steps and passes that begin with its own step. */
    private static final String[] LOST_IN = {"pit 2 0;", "bell 2 0;pit 1 0;", "pit 1 0;", "bell 2 0;pit 0 0;", "pit 0 0;"};

    private ReckonEdges() { }

    static void run() {
        safe();
        safeOfBoards();
        safeNumbers();
        safest();
        valueInN();
        valueWhenOver();
        valueByRefusals();
        valueAheadOfTheLastStep();
        best();
        bestIsNone();
        refuses();
        refusesRefused();
        worth();
        worthNumbers();
        bag();
        bagNumbers();
        fairest();
        even();
        evenChanged();
        rounds();
        roundsNumbers();
        lot();
        asked();
    }

    private static void safe() {
        Said said = Said.by(13, "SAFE in n (0 .. 9): cells (no WALLS) from which MAN m, alone on THE BOARD, is never on a PIT, whatever n "
            + "steps of its LAW are told, one behind another (on a cell without a step it stays): bits.");
        OthersMan x = Checks.told(WAY + "pit 1 1;man 0 2 0;man 1 3 0;");
        for (int n = 0; n <= 9; n++) {
            int due = 0;
            for (int c = 0; c < 16; c++) if (FROM_PIT[c] > n) due += 1 << c;
            said.due("in " + n + ", man 0", x.safe(0, n), due);
            said.due("in " + n + ", man 1", x.safe(1, n), due);
        }
        OthersMan alone = Checks.told("board 3 2;law 1 2;pit 2 0;man 0 0 0;man 1 1 0;");
        said.due("alone, in 0", alone.safe(0, 0), 0b111011);
        said.due("alone, in 1", alone.safe(0, 1), 0b111001);
        said.due("alone, in 2", alone.safe(0, 2), 0b111000);
        said.due("on cells without a step it stays", alone.safe(0, 9), 0b111000);
        OthersMan over = Checks.told("board 4 2;law 2 2;pit 1 0;wall 2 1;law 1 2;uses 1 1;");
        said.due("by two over a PIT", over.safe(0, 9), 0b10111101);
        said.due("by one onto it, a WALL is none", over.safe(1, 9), 0b10111100);
        OthersMan ends = Checks.told("board 4 2;law 1 2;home 0 1 0;home 1 1 0;bell 1 0;pit 2 0;");
        said.due("neither a HOME nor a BELL ends it", ends.safe(0, 2) & 3, 0);
    }

    private static void safeOfBoards() {
        Said said = Said.by(13, "SAFE, as bits. BAD.");
        StringBuilder pits = new StringBuilder();
        StringBuilder walls = new StringBuilder();
        for (int c = 0; c < 16; c++) {
            pits.append("pit").append(c % 4).append(' ').append(c / 4).append(';');
            walls.append("wall").append(c % 4).append(' ').append(c / 4).append(';');
        }
        for (int n = 0; n <= 9; n++) {
            said.due("no laws, in " + n, new OthersMan().safe(0, n), 65535);
            said.due("no pits, in " + n, Checks.told(ALL).safe(1, n), 65535);
            said.due("all pits, in " + n, Checks.told(pits + ALL).safe(1, n), 0);
            said.due("all walls, in " + n, Checks.told(walls + ALL).safe(0, n), 0);
            said.due("the smallest board, in " + n, Checks.told("board 2 2;" + ALL).safe(0, n), 15);
            said.due("no laws, a PIT, in " + n, Checks.told("pit 3 3;wall 0 0;").safe(0, n), 32766);
        }
    }

    private static void safeNumbers() {
        Said said = Said.by(13, "SAFE, as bits. BAD.");
        Twins.notLet(said, "man", (x, m) -> x.safe(m, 1), -1, -1, 2, 3);
        Twins.notLet(said, "man 0 in", (x, n) -> x.safe(0, n), -1, -1, 10, 11);
        Twins.notLet(said, "man 1 in", (x, n) -> x.safe(1, n), -1, -1, 10, 11);
        said.due("over, it is told all the same", Twins.over().safe(0, 0), 0b111011110111);
    }

    private static void safest() {
        Said said = Said.by(14, "SAFEST: the greatest n (0 .. 9) for which its own cell is SAFE.");
        for (int c = 0; c < 16; c++) {
            if (FROM_PIT[c] <= 0) continue;
            String xy = c % 4 + " " + c / 4 + ";";
            OthersMan x = Checks.told(WAY + "pit 1 1;man 0 " + xy + "man 1 " + xy);
            said.due("at " + FROM_PIT[c] + " from the PIT, man 0", x.safest(0), Math.min(FROM_PIT[c] - 1, 9));
            said.due("at " + FROM_PIT[c] + " from the PIT, man 1", x.safest(1), Math.min(FROM_PIT[c] - 1, 9));
        }
        OthersMan x = Checks.told(WAY + "pit 1 1;man 1 2 0;man 0 0 3;");
        said.due("at first", x.safest(1), 9);
        said.due("a step", x.tell(2), 0);
        said.due("its own cell NOW", x.safest(1), 8);
        Said own = Said.by(14, "SAFEST; NONE: it is on a PIT. BAD.");
        own.due("no PIT", Checks.told(ALL).safest(0), 9);
        own.due("no laws", new OthersMan().safest(1), 9);
        own.due("put on a PIT", Checks.told("pit 0 0;" + ALL).safest(0), -9);
        own.due("put on a PIT, without laws", Checks.told("pit 3 3;").safest(1), -9);
        own.due("put on a WALL, which is no SAFE cell", Checks.told("wall 0 0;" + ALL).safest(0), -9);
        OthersMan lost = Checks.told(ALL + "pit 3 2;");
        lost.tell(0);
        own.due("lost", lost.safest(1), -9);
        own.due("the other one, far off", lost.safest(0), 2);
        Twins.notLet(own, "man", OthersMan::safest, -1, -1, 2, 3);
    }

    private static void valueInN() {
        Said said = Said.by(15, "VALUE in n (0 .. 5 steps and passes from now on): 1 A wins, -1 B wins, 0 neither within these, both "
            + "telling, and refusing, as is best for them: A for more, B for less.");
        for (int in = 1; in <= 5; in++) {
            String lost = LOST_IN[in - 1];
            String home = lost.replace("pit", "home 1");
            String home0 = lost.replace("pit", "home 0");
            OthersMan passed = Checks.told(MAN_0_GOES + lost);
            passed.pass();
            OthersMan passedHome = Checks.told(MAN_0_GOES + home0);
            passedHome.pass();
            for (int n = 0; n <= 5; n++) {
                said.due("man 1 lost in " + in, Checks.told(MAN_1_GOES + lost).value(n), n >= in ? 1 : 0);
                said.due("man 1 home in " + in, Checks.told(MAN_1_GOES + home).value(n), n >= in ? -1 : 0);
                said.due("a pass, man 0 lost in " + in, Checks.told(MAN_0_GOES + lost).value(n), n >= in + 1 ? -1 : 0);
                said.due("man 0 lost in " + in, passed.value(n), n >= in ? -1 : 0);
                said.due("man 0 home in " + in, passedHome.value(n), n >= in ? 1 : 0);
            }
        }
        for (int n = 0; n <= 5; n++) said.due("no laws, in " + n, new OthersMan().value(n), 0);
        Said own = Said.by(15, "VALUE. NO: BAD.");
        Twins.notLet(own, "n", OthersMan::value, -1000000, -1, 6, 7);
    }

    private static void valueWhenOver() {
        Said said = Said.by(15, "(From the POSITION NOW; those that are asked change nothing.)");
        for (int n = 0; n <= 5; n++) {
            said.due("A has won, in " + n, Twins.over().value(n), 1);
            said.due("B has won, in " + n, WalkEdges.bWon().value(n), -1);
            said.due("nobody has, in " + n, WalkEdges.nobodyWon().value(n), 0);
        }
        OthersMan x = Checks.told(MAN_1_GOES + "pit 0 0;");
        int[] due = {5, 4, 3, 2, 1};
        for (int in : due) {
            said.due("in " + in + " from now on", x.value(in), 1);
            said.due("not in " + (in - 1), x.value(in - 1), 0);
            said.due("on", in % 2 == 1 ? x.tell(6) : x.pass(), in == 1 ? 1 : 0);
        }
        said.due("over", x.value(0), 1);
        said.due("anew", x.anew(), 5);
        said.due("in 5 again", x.value(5), 1);
        said.due("not in 4 again", x.value(4), 0);
    }

    private static void valueByRefusals() {
        Said said = Said.by(15, "(A refusal is no step; REFUSALS are told by the owner of the man, behind a told step, before the step is "
            + "done.)");
        String two = "board 3 2;law 1 2 6;law 1 0;uses 0 1;man 1 1 1;man 0 0 0;home 1 1 0;home 0 2 0;";
        said.due("a PIT, none left", Checks.told(two + "pit 0 1;refuses 1 0;").value(1), 1);
        said.due("a PIT, refused", Checks.told(two + "pit 0 1;refuses 1 1;").value(1), 0);
        said.due("two PITS, refused within the one step", Checks.told(two + "pit 0 1;pit 2 1;refuses 1 2;").value(1), 1);
        said.due("a PIT and HOME, none left", Checks.told(two + "pit 0 1;home 1 2 1;refuses 1 0;").value(1), 1);
        said.due("a PIT and HOME, refused", Checks.told(two + "pit 0 1;home 1 2 1;refuses 1 1;").value(1), -1);
        said.due("the other man's REFUSALS don't help", Checks.told(two + "pit 0 1;refuses 1 0;refuses 0 2;").value(1), 1);
        said.due("nothing is refused in none", Checks.told(two + "pit 0 1;home 1 2 1;").value(0), 0);
        OthersMan barred = Checks.told(two + "pit 0 1;home 1 2 1;refuses 1 2;");
        said.due("HOME refused", barred.refuse(2), 1);
        said.due("the PIT may not be, just now", barred.value(1), 1);
        OthersMan pit = Checks.told(two + "pit 0 1;home 1 2 1;refuses 1 2;");
        said.due("the PIT refused", pit.refuse(6), 1);
        said.due("HOME is left", pit.value(1), -1);
    }

    /** Man 1 shuttles at the right end of a row, B passes; behind the 99th a walk is over, so it is not lost beyond that. */
    private static void valueAheadOfTheLastStep() {
        Said said = Said.by(15, "A WALK is over then, or behind 99 steps and passes.");
        String row = "board 4 3;law 1 6 2;law 1 2;uses 0 1;man 0 3 2;home 0 0 2;home 1 0 2;refuses 1 0;pit 0 0;man 1 ";
        for (int steps = 90; steps <= 98; steps += 2) {
            OthersMan x = shuttling(row + (steps % 4 == 0 ? 3 : 2) + " 0;", steps);
            said.due("at the right end behind " + steps, x.man(1, 0), 3);
            said.due("lost in five, from " + steps, x.value(5), steps + 5 <= 99 ? 1 : 0);
            said.due("not in four, from " + steps, x.value(4), 0);
            OthersMan near = shuttling(row + (steps % 4 == 0 ? 2 : 3) + " 0;", steps);
            said.due("one off the right end behind " + steps, near.man(1, 0), 2);
            said.due("lost in three, from " + steps, near.value(5), steps + 3 <= 99 ? 1 : 0);
        }
    }

    /** A tells man 1 right, where it may, else left; B passes. */
    private static OthersMan shuttling(String text, int steps) {
        OthersMan x = Checks.told(text);
        for (int i = 0; i < steps; i++) {
            if (i % 2 == 1) Checks.due("a pass of B, " + i, x.pass(), 0);
            else Checks.due("a step of A, " + i, x.tell((x.man(1, 4) & 4) != 0 ? 2 : 6), 0);
        }
        return x;
    }

    private static void best() {
        Said said = Said.by(16, "BEST of those that may be told: by VALUE, of several the first by directions;");
        for (int d = 0; d < 8; d++) {
            String pit = "pit " + AROUND[d] % 3 + " " + AROUND[d] / 3 + ";";
            String corner = d == 7 ? "2 0;" : "0 0;";
            String homes = "home 0 1 1;home 1 1 1;refuses 0 0;refuses 1 0;" + pit;
            OthersMan a = Checks.told("board 3 3;" + ALL + "law 1 0;uses 0 1;man 1 1 1;man 0 " + corner + homes);
            OthersMan b = Checks.told("board 3 3;" + ALL + "law 1 0;uses 1 1;man 0 1 1;man 1 " + corner + homes);
            b.pass();
            for (int n = 1; n <= 2; n++) {
                said.due("A: the PIT by " + d + " in " + n, a.best(n), d);
                said.due("B: the PIT by " + d + " in " + n, b.best(n), d);
            }
        }
        OthersMan same = Checks.told("board 3 3;" + ALL + "man 1 1 1;man 0 1 1;home 1 1 1;home 0 1 1;refuses 1 2;");
        said.due("all alike: the first", same.best(1), 0);
        same.refuse(0);
        said.due("the first of those that may be told", same.best(1), 1);
        same.tell(7);
        said.due("B: the first", same.best(1), 0);
        String two = "board 3 2;law 1 2 6;law 1 0;uses 0 1;man 1 1 1;man 0 0 0;home 1 2 1;home 0 2 0;pit 0 1;refuses 1 ";
        said.due("none left: the PIT", Checks.told(two + "0;").best(1), 6);
        said.due("the PIT would be refused, HOME is as bad: the first", Checks.told(two + "1;").best(1), 2);
        OthersMan refused = Checks.told(two + "1;");
        refused.refuse(2);
        said.due("just the PIT is left", refused.best(5), 6);
        for (int in = 1; in <= 5; in++) {
            for (int n = 1; n <= 5; n++) {
                said.due("one step alone, lost in " + in, Checks.told(MAN_1_GOES + LOST_IN[in - 1]).best(n), 6);
                said.due("one step alone, home in " + in, Checks.told(MAN_1_GOES + LOST_IN[in - 1].replace("pit", "home 1")).best(n), 6);
            }
        }
        // Up, two PITS are met by bells, in two steps; left, there is none.
        String deep = "board 4 4;law 1 0 6;man 1 3 3;man 0 0 0;law 1 0;uses 0 1;refuses 1 0;home 1 0 1;bell 2 3;pit 2 2;pit 1 3;";
        said.due("in one all are alike", Checks.told(deep).best(1), 0);
        said.due("in two the BELL is better", Checks.told(deep).best(2), 6);
    }

    private static void bestIsNone() {
        Said said = Said.by(16, "BEST in n (1 .. 5); NONE. BAD.");
        Said terms = Said.by(16, "NONE (a pass, or it is over).");
        for (int n = 1; n <= 5; n++) {
            said.due("no laws", new OthersMan().best(n), -9);
            terms.due("a pass", Checks.told(MAN_0_GOES).best(n), -9);
            terms.due("A has won", Twins.over().best(n), -9);
            terms.due("B has won", WalkEdges.bWon().best(n), -9);
            terms.due("nobody has", WalkEdges.nobodyWon().best(n), -9);
        }
        Twins.notLet(said, "n", OthersMan::best, -1, 0, -1, 6, 7);
    }

    private static void refuses() {
        Said said = Said.by(17, "REFUSE: whether the owner does best to REFUSE a told direction (just if that is better for it).");
        String two = "board 3 2;law 1 2 6;law 1 0;uses 0 1;man 1 1 1;man 0 0 0;home 1 2 1;home 0 2 0;refuses 1 2;";
        String other = "board 3 2;law 1 2 6;law 1 0;uses 1 1;man 0 1 1;man 1 0 0;home 0 2 1;home 1 2 0;refuses 0 2;";
        OthersMan owner0 = Checks.told(other + "pit 0 1;");
        owner0.pass();
        for (int n = 1; n <= 5; n++) {
            OthersMan x = Checks.told(two + "pit 0 1;");
            said.due("the PIT, in " + n, x.refuses(6, n), 1);
            said.due("HOME, in " + n, x.refuses(2, n), 0);
            said.due("A's man, the PIT, in " + n, owner0.refuses(6, n), 1);
            said.due("A's man, HOME, in " + n, owner0.refuses(2, n), 0);
            OthersMan pits = Checks.told(two + "pit 0 1;pit 2 1;");
            said.due("no better, in " + n, pits.refuses(6, n), 0);
            said.due("no better, either, in " + n, pits.refuses(2, n), 0);
            OthersMan plain = Checks.told("law 1 0 6;law 1 0;uses 0 1;");
            said.due("nothing comes of it, in " + n, plain.refuses(0, n), 0);
            // In five it comes home all the same: left, (a pass,) right, (a pass,) and left is refused then.
            said.due("HOME now, or not in " + n, Checks.told(two).refuses(6, n), n < 5 ? 1 : 0);
        }
        Said not = Said.by(17, "REFUSE in n (1 .. 5), if a direction is told: 1, 0 (it may not be REFUSED, too).");
        not.due("none left", Checks.told(two + "pit 0 1;refuses 1 0;").refuses(6, 1), 0);
        not.due("no other step", Checks.told("law 1 0;pit 3 2;").refuses(0, 1), 0);
        not.due("no other step for the other man", Checks.told("law 1 0 6;pit 3 2;man 0 2 3;").refuses(0, 1), 0);
        OthersMan now = Checks.told(two + "pit 0 1;");
        now.refuse(2);
        not.due("one was just now", now.refuses(6, 1), 0);
        not.due("it would be told", now.tell(6), 1);
    }

    private static void refusesRefused() {
        Said said = Said.by(17, "BAD: numbers; STATE: it is over; BAD: it may not be told.");
        Twins.notLet(said, "direction", (x, d) -> x.refuses(d, 1), -1, -1, 8, 9);
        Twins.notLet(said, "direction 0 in", (x, n) -> x.refuses(0, n), -1, 0, -1, 6, 7);
        Twins.notLet(said, "direction 8 in", (x, n) -> x.refuses(8, n), -1, 0, 6);
        for (int d = 0; d < 8; d++) {
            int told = d;
            Twins.refused(said, "A has won, " + d, Twins::over, x -> x.refuses(told, 1), -2);
            Twins.refused(said, "B has won, " + d, WalkEdges::bWon, x -> x.refuses(told, 5), -2);
            Twins.refused(said, "nobody has, " + d, WalkEdges::nobodyWon, x -> x.refuses(told, 1), -2);
            Twins.refused(said, "no laws, " + d, Twins::fresh, x -> x.refuses(told, 5), -1);
        }
        Twins.refused(said, "the one refused just now", Twins::amid, x -> x.refuses(2, 1), -1);
        Twins.refused(said, "onto the other man", Twins::amid, x -> x.refuses(4, 1), -1);
        Twins.refused(said, "onto a WALL", Twins::amid, x -> x.refuses(5, 5), -1);
        Twins.refused(said, "it may be told, but not refused", Twins::amid, x -> x.refuses(0, 5), 0);
    }

    private static void worth() {
        Said said = Said.by(18, "WORTH of a REFUSAL for m in n: VALUE with one more REFUSAL of m (2 at most), less VALUE as it is.");
        String two = "board 3 2;law 1 2 6;law 1 0;uses 0 1;man 1 1 1;man 0 0 0;home 1 2 1;home 0 2 0;pit 0 1;refuses 1 ";
        String plain = "board 3 2;law 1 2 6;law 1 0;uses 0 1;man 1 1 1;man 0 0 0;home 1 1 0;home 0 2 0;pit 0 1;refuses 1 ";
        String other = "board 3 2;law 1 2 6;law 1 0;uses 1 1;man 0 1 1;man 1 0 0;home 0 2 1;home 1 2 0;pit 0 1;refuses 0 ";
        String plain0 = "board 3 2;law 1 2 6;law 1 0;uses 1 1;man 0 1 1;man 1 0 0;home 0 1 0;home 1 2 0;pit 0 1;refuses 0 ";
        for (int n = 0; n <= 4; n++) {
            int most = n == 0 ? 0 : 2;
            said.due("HOME instead of the PIT, in " + n, Checks.told(two + "0;").worth(1, n), -most);
            said.due("none instead of the PIT, in " + n, Checks.told(plain + "0;").worth(1, n), -most / 2);
            said.due("a second one, in " + n, Checks.told(two + "1;").worth(1, n), 0);
            said.due("2 at most, in " + n, Checks.told(two + "2;").worth(1, n), 0);
            said.due("of the other man, in " + n, Checks.told(two + "0;").worth(0, n), 0);
            OthersMan passed = Checks.told(other + "0;");
            passed.pass();
            said.due("man 0, HOME instead of the PIT, in " + n, passed.worth(0, n), most);
            said.due("man 0, of the other man, in " + n, passed.worth(1, n), 0);
            OthersMan passedPlain = Checks.told(plain0 + "0;");
            passedPlain.pass();
            said.due("man 0, none instead of the PIT, in " + n, passedPlain.worth(0, n), most / 2);
            said.due("man 0, behind a pass, in " + n, Checks.told(other + "0;").worth(0, n), n < 2 ? 0 : 2);
            said.due("A has won, in " + n, Twins.over().worth(1, n), 0);
            said.due("B has won, in " + n, WalkEdges.bWon().worth(0, n), 0);
            said.due("no laws, in " + n, new OthersMan().worth(0, n), 0);
        }
        // By two bells A tells man 1 three times, and up is a PIT each time: a third REFUSAL would help.
        OthersMan third = Checks.told("board 4 2;law 1 0 6;man 1 3 1;pit 3 0;pit 2 0;pit 1 0;bell 2 1;bell 1 1;refuses 1 2;");
        said.due("two are too few", third.value(3), 1);
        said.due("a third is none", third.worth(1, 3), 0);
        // By one bell A tells it twice: one REFUSAL more is too few, two were not.
        String twice = "board 4 2;law 1 0 6;man 1 3 1;pit 3 0;pit 2 0;bell 2 1;refuses 1 ";
        said.due("one more is one, of none", Checks.told(twice + "0;").worth(1, 2), 0);
        said.due("one more is one, of one", Checks.told(twice + "1;").worth(1, 2), -1);
        OthersMan justNow = Checks.told(two + "1;");
        justNow.refuse(2);
        said.due("one more, but one was refused just now", justNow.worth(1, 1), 0);
    }

    private static void worthNumbers() {
        Said said = Said.by(18, "WORTH of a REFUSAL (n 0 .. 4). NO: BAD.");
        Twins.notLet(said, "man", (x, m) -> x.worth(m, 1), -1000000, -1, 2, 3);
        Twins.notLet(said, "man 0 in", (x, n) -> x.worth(0, n), -1000000, -1, 5, 6);
        Twins.notLet(said, "man 1 in", (x, n) -> x.worth(1, n), -1000000, -1, 5, 6);
    }

    private static final String THREE = "board 4 3;law 1 0 2 6;law 2 1 2 3 5 6 7;law 1 0 1 2 3 4 5 6 7;pit 3 1;bell 1 1;pit 0 2;pit 2 0;"
        + "man 0 1 0;man 1 2 2;home 0 0 1;home 1 3 2;refuses 0 1;refuses 1 1;";

    private static void bag() {
        Said said = Said.by(19, "BAG: for LAWS i of MAN 0, j of MAN 1 (all else as NOW, what may not be told just now, too): VALUE in n.");
        OthersMan x = Checks.told(THREE);
        OthersMan refused = Checks.told(THREE);
        refused.refuse(6);
        OthersMan over = Checks.told(THREE);
        over.tell(2);
        for (int i = 0; i < 3; i++) {
            for (int j = 0; j < 3; j++) {
                String uses = THREE + "uses 0 " + i + ";uses 1 " + j + ";";
                OthersMan refusedSo = Checks.told(uses);
                said.due("6 is refused", refusedSo.refuse(6), 0);
                for (int n = 0; n <= 4; n++) {
                    String name = i + " " + j + " in " + n;
                    said.due(name, x.bag(i, j, n), Checks.told(uses).value(n));
                    said.due("behind a refusal, " + name, refused.bag(i, j, n), refusedSo.value(n));
                    said.due("over, " + name, over.bag(i, j, n), -1);
                }
            }
        }
        said.due("the laws stay", x.man(0, 2) + x.man(1, 2), 0);
        for (int laws = 0; laws <= 3; laws++) {
            OthersMan some = Checks.told("law 1 0;".repeat(laws));
            for (int l = 0; l < 4; l++) {
                said.due("law " + l + " of " + laws + ", man 0", some.bag(l, 0, 4), l < laws ? 0 : -1000000);
                said.due("law " + l + " of " + laws + ", man 1", some.bag(0, l, 0), l < laws ? 0 : -1000000);
            }
        }
    }

    private static void bagNumbers() {
        Said said = Said.by(19, "BAG (n 0 .. 4). NO: BAD.");
        Twins.notLet(said, "law of man 0", (x, i) -> x.bag(i, 0, 1), -1000000, -1, 3, 4);
        Twins.notLet(said, "law of man 1", (x, j) -> x.bag(0, j, 1), -1000000, -1, 3, 4);
        Twins.notLet(said, "in", (x, n) -> x.bag(0, 0, n), -1000000, -1, 5, 6);
        Twins.notLet(said, "last laws, in", (x, n) -> x.bag(2, 2, n), -1000000, -1, 5);
        Twins.refused(said, "no laws", Twins::fresh, x -> x.bag(0, 0, 0), -1000000);
    }

    /** By law 0 up, by 1 right, by 2 down; but for one of these each man is lost by its first step. */
    private static OthersMan lostButFor(int i, int j) {
        String[] man0 = {"pit 0 0;", "pit 1 1;", "pit 0 2;"};
        String[] man1 = {"pit 2 0;", "pit 3 1;", "pit 2 2;"};
        StringBuilder text = new StringBuilder("law 1 0;law 1 2;law 1 4;man 0 0 1;man 1 2 1;home 0 3 3;home 1 0 3;");
        for (int l = 0; l < 3; l++) {
            if (l != i) text.append(man0[l]);
            if (l != j) text.append(man1[l]);
        }
        return Checks.told(text.toString());
    }

    private static void fairest() {
        Said said = Said.by(20, "FAIREST: of all pairs of LAWS (i, j) the first by i, then j, with a VALUE of 0 in n, in which no other LAW "
            + "i brings A more, none j brings B more; 10 i and j; NONE.");
        for (int i = 0; i < 3; i++) {
            for (int j = 0; j < 3; j++) {
                OthersMan x = lostButFor(i, j);
                said.due("in 0, the first", x.fairest(0), 0);
                said.due("in 1, A's first step, " + j, x.fairest(1), j);
                said.due("in 2, " + i + " " + j, x.fairest(2), 10 * i + j);
                said.due("in 3, " + i + " " + j, x.fairest(3), 10 * i + j);
            }
        }
        OthersMan more = Checks.told("law 1 0 4;law 1 2;home 0 1 1;man 0 0 1;");
        more.tell(0);
        said.due("another i brings A more", more.fairest(1), -9);
        OthersMan moreByFirst = Checks.told("law 1 2;law 1 0 4;home 0 1 1;man 0 0 1;uses 1 1;");
        moreByFirst.tell(0);
        said.due("the first i brings A more", moreByFirst.fairest(1), -9);
        OthersMan less = Checks.told("law 1 0;law 1 6;home 1 2 3;");
        said.due("another j brings B more", less.fairest(1), -9);
        said.due("the first j brings B more", Checks.told("law 1 6;law 1 0;home 1 2 3;").fairest(1), -9);
        said.due("all of them lose", Checks.told("law 1 0;law 1 0 6;pit 3 2;pit 2 3;").fairest(1), -9);
        said.due("one law", Checks.told("law 1 0;").fairest(3), 0);
        for (int n = 0; n <= 3; n++) {
            said.due("no laws", new OthersMan().fairest(n), -9);
            said.due("A has won", Twins.over().fairest(n), -9);
            said.due("B has won", WalkEdges.bWon().fairest(n), -9);
            said.due("nobody has, no laws", WalkEdges.nobodyWon().fairest(n), -9);
        }
        OthersMan nobody = WalkEdges.shuttled("", 98);
        nobody.tell(4);
        said.due("nobody has, by a law", nobody.fairest(3), 0);
        Said own = Said.by(20, "FAIREST (n 0 .. 3); NONE. BAD.");
        Twins.notLet(own, "n", OthersMan::fairest, -1, -1, 4, 5);
        for (int n = 0; n <= 3; n++) own.due("by BAG, in " + n, Checks.told(THREE).fairest(n), fairestByBag(Checks.told(THREE), n));
    }

    private static int fairestByBag(OthersMan x, int n) {
        for (int i = 0; i < 3; i++) {
            for (int j = 0; j < 3; j++) {
                boolean fair = x.bag(i, j, n) == 0;
                for (int l = 0; l < 3; l++) fair = fair && x.bag(l, j, n) <= 0 && x.bag(i, l, n) >= 0;
                if (fair) return 10 * i + j;
            }
        }
        return -9;
    }

    private static void even() {
        Said said = Said.by(21, "EVEN: whether VALUE in n is 0 as it is, and 0 with both MEN's cells, HOMES, LAWS, REFUSALS left changed "
            + "with one another (who tells, what may not be told just now: as NOW).");
        for (int in = 1; in <= 5; in++) {
            for (int n = 0; n <= 4; n++) {
                said.due("man 1 lost in " + in, Checks.told(MAN_1_GOES + LOST_IN[in - 1]).even(n), n >= in ? 0 : 1);
                said.due("changed, man 1 lost in " + in, Checks.told(MAN_0_GOES + LOST_IN[in - 1]).even(n), n >= in ? 0 : 1);
            }
        }
        for (int n = 0; n <= 4; n++) {
            said.due("no laws", new OthersMan().even(n), 1);
            said.due("A has won", Twins.over().even(n), 0);
            said.due("B has won", WalkEdges.bWon().even(n), 0);
            said.due("nobody has", WalkEdges.nobodyWon().even(n), 1);
        }
        Said own = Said.by(21, "EVEN (n 0 .. 4): 1, 0. BAD.");
        Twins.notLet(own, "n", OthersMan::even, -1, -1, 5, 6);
    }

    private static String man(int m, int cell, int home, int law, int refusals) {
        return "man " + m + " " + cell % 3 + " " + cell / 3 + ";home " + m + " " + home % 3 + " " + home / 3 + ";uses " + m + " " + law
            + ";refuses " + m + " " + refusals + ";";
    }

    /** Compared with the value on a board on which the text itself has changed the men with one another. */
    private static void evenChanged() {
        Said said = Said.by(21, "and 0 with both MEN's cells, HOMES, LAWS, REFUSALS left changed with one another");
        String board = "board 3 3;law 1 2 6;law 1 0 2 4;pit 0 0;pit 2 1;bell 1 1;";
        int changed = 0;
        for (int i = 0; i < 900; i++) {
            int cell0 = 6 + i % 3, cell1 = 1 + i / 3 % 2, home0 = i * 7 % 9, home1 = i * 5 / 3 % 9;
            int law0 = i / 9 % 2, law1 = i / 18 % 2, left0 = i / 4 % 3, left1 = i / 12 % 3;
            OthersMan x = Checks.told(board + man(0, cell0, home0, law0, left0) + man(1, cell1, home1, law1, left1));
            OthersMan y = Checks.told(board + man(0, cell1, home1, law1, left1) + man(1, cell0, home0, law0, left0));
            for (int n = 0; n <= 4; n++) {
                int due = x.value(n) == 0 && y.value(n) == 0 ? 1 : 0;
                if (x.value(n) == 0 && due == 0) changed++;
                said.due("board " + i + " in " + n, x.even(n), due);
            }
        }
        said.due("boards that are not even when changed alone", changed > 50 ? 1 : 0, 1);
        Said as = Said.by(21, "(who tells, what may not be told just now: as NOW).");
        OthersMan b = Checks.told("board 3 3;law 1 0 2;law 1 4 6;uses 1 1;man 1 1 1;man 0 0 0;home 1 0 2;home 0 2 2;refuses 0 0;refuses 1 0;");
        as.due("A tells", b.even(1), 1);
        as.due("a step", b.tell(4), 0);
        as.due("B tells, nobody wins as it is", b.value(1), 0);
        as.due("B would have to tell the other one home", b.even(1), 0);
        OthersMan forced = Checks.told("board 3 3;law 1 0 2;law 1 6 4;uses 1 1;man 1 1 1;man 0 0 0;pit 0 2;refuses 0 0;refuses 1 0;home 1 2 2;");
        as.due("A tells, no PIT yet", forced.even(1), 1);
        as.due("a step down", forced.tell(4), 0);
        as.due("nobody wins as it is, B's man goes right", forced.value(1), 0);
        as.due("B would tell it onto the PIT", forced.even(1), 0);
        OthersMan barred = Checks.told("board 3 3;law 1 2 6;man 1 1 2;man 0 1 0;pit 0 0;home 0 1 1;home 1 1 1;refuses 0 0;refuses 1 1;");
        as.due("A would tell the other onto the PIT", barred.even(1), 0);
        as.due("6 is refused", barred.refuse(6), 0);
        as.due("that may not be told just now", barred.even(1), 1);
    }

    /** Rounds played by telling: how many A has won less those of B, and the lot behind them. */
    private static long[] played(String text, int k, int lot) {
        long chance = lot & 0xffffffffL;
        int more = 0;
        for (int i = 0; i < k; i++) {
            OthersMan y = Checks.told(text);
            while (y.now(2) == 0) {
                int may = y.man(1 - y.now(0), 4);
                if (may == 0) {
                    y.pass();
                    continue;
                }
                chance = (chance * 1103515245L + 12345L) % 4294967296L;
                int rank = (int) (chance / 65536 % Integer.bitCount(may));
                int d = 0;
                while ((may >> d & 1) == 0 || rank-- > 0) d++;
                y.tell(d);
            }
            more += y.now(2) == 1 ? 1 : y.now(2) == 2 ? -1 : 0;
        }
        return new long[] {more, (int) chance};
    }

    private static void rounds() {
        Said said = Said.by(22, "ROUNDS: from the POSITION at first, each teller tells by THE LOT (it goes on, times 1103515245 and 12345, "
            + "wrapped; DRAW: its upper 16 bits, as a number from 0 on, left over by how many steps MAY be): the step of that number, by "
            + "directions; nobody refuses; k times (1 .. 99): how many A wins less how many B wins (over: 99).");
        String[] texts = {"", ALL, Twins.RICH, THREE, WalkEdges.SHUTTLE, WAY, MAN_0_GOES, MAN_1_GOES + "pit 0 0;", lostText(),
            "board 2 2;law 1 0 2 4 6;", ALL + "pit 1 1;pit 2 2;bell 1 2;bell 2 1;refuses 0 2;refuses 1 2;"};
        int[] lots = {1, 0, -1, Integer.MIN_VALUE, Integer.MAX_VALUE, 99, 32768, 65535, -65536};
        for (String text : texts) {
            for (int lot : lots) {
                OthersMan x = Checks.told(text);
                x.lot(lot);
                long[] due = played(text, 3, lot);
                said.due("three, lot " + lot + " on '" + text + "'", x.rounds(3), due[0]);
                said.due("the lot then, " + lot + " on '" + text + "'", x.lot(0), due[1]);
            }
        }
        for (int k : new int[] {1, 2, 99}) {
            OthersMan x = Checks.told(Twins.RICH);
            long[] due = played(Twins.RICH, k, 1);
            said.due(k + " rounds", x.rounds(k), due[0]);
            said.due("the lot behind " + k, x.lot(0), due[1]);
        }
        OthersMan amid = Twins.amid();
        long[] due = played(Twins.RICH, 9, 777);
        said.due("amid, from the POSITION at first", amid.rounds(9), due[0]);
        said.due("amid, the lot", amid.lot(777), due[1]);
        Twins.same(said, "but for the lot nothing changes", amid, Twins.amid());
        OthersMan over = Twins.over();
        over.lot(5);
        said.due("over, from the POSITION at first", over.rounds(9), played(Twins.RICH, 9, 5)[0]);
    }

    private static String lostText() {
        return "law 1 0 6;pit 3 2;home 1 2 3;";
    }

    private static void roundsNumbers() {
        Said said = Said.by(22, "ROUNDS. NO: BAD.");
        Twins.notLet(said, "k", OthersMan::rounds, -1000000, 0, -1, 100, 101);
        said.due("99, A wins each", Checks.told("law 1 0;pit 3 2;").rounds(99), 99);
        said.due("99, B wins each", Checks.told("law 1 0;home 1 3 2;").rounds(99), -99);
        said.due("1, A wins", Checks.told("law 1 0;pit 3 2;").rounds(1), 1);
        said.due("1, B wins", Checks.told("law 1 0;home 1 3 2;").rounds(1), -1);
        said.due("99, nobody", new OthersMan().rounds(99), 0);
        OthersMan draws = Checks.told(WalkEdges.SHUTTLE + "wall 0 2;wall 1 2;");
        draws.rounds(1);
        int lot = 1;
        for (int i = 0; i < 99; i++) lot = lot * 1103515245 + 12345;
        said.due("over behind 99 of its steps", draws.lot(0), lot);
        OthersMan passes = new OthersMan();
        passes.rounds(99);
        said.due("a pass is not drawn", passes.lot(0), 1);
    }

    private static void lot() {
        Said said = Said.by(23, "THE LOT becomes v: what it was.");
        int[] all = {Integer.MIN_VALUE, Integer.MAX_VALUE, 0, -1, 1, 65536};
        OthersMan x = new OthersMan();
        int was = 1;
        for (int v : all) {
            said.due("before " + v, x.lot(v), was);
            was = v;
        }
        OthersMan y = Twins.amid();
        said.due("amid", y.lot(Integer.MIN_VALUE), 777);
        said.due("put back", y.lot(777), Integer.MIN_VALUE);
        Twins.same(said, "nothing else changes", y, Twins.amid());
        // The upper 16 bits are 32768 then, by three steps 2 is left over: the third one, HOME. Below 0 it would be none.
        OthersMan third = Checks.told("law 1 0 6 7;home 1 2 2;pit 3 2;pit 2 3;");
        third.lot(Integer.MIN_VALUE);
        said.due("the greatest bit counts as a number from 0 on", third.rounds(1), -1);
        said.due("wrapped", third.lot(0), Integer.MIN_VALUE + 12345);
    }

    private static void asked() {
        Said said = Said.by(15, "those that are asked change nothing.");
        for (int i = 0; i < 2; i++) {
            int m = i;
            Twins.changesNothing(said, "safe()", x -> x.safe(m, 9));
            Twins.changesNothing(said, "safest()", x -> x.safest(m));
            Twins.changesNothing(said, "worth()", x -> x.worth(m, 4));
            Twins.changesNothing(said, "cell()", x -> x.cell(m, 2));
            Twins.changesNothing(said, "law()", x -> x.law(0, m));
            for (int what = 0; what < 5; what++) {
                int w = what;
                Twins.changesNothing(said, "man()", x -> x.man(m, w));
            }
        }
        Twins.changesNothing(said, "value()", x -> x.value(5));
        Twins.changesNothing(said, "best()", x -> x.best(5));
        Twins.changesNothing(said, "refuses()", x -> x.refuses(0, 5));
        Twins.changesNothing(said, "bag()", x -> x.bag(2, 1, 4));
        Twins.changesNothing(said, "fairest()", x -> x.fairest(3));
        Twins.changesNothing(said, "even()", x -> x.even(4));
    }
}

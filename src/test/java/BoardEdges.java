/** Promises 1, 5, 6, 7 and 27: the board, the laws and the men, at the edges that the document names. */
final class BoardEdges {
    private static final String[] CELLS = {"", "pit", "bell", "wall"};
    /** Where the eight directions lead to from the middle of nine cells. */
    private static final int[] AROUND = {1, 2, 5, 8, 7, 6, 3, 0};

    private BoardEdges() { }

    static void run() {
        newObject();
        menAtFirst();
        numbersOfCells();
        kindsOfCells();
        beyondTheBoard();
        lawsAsked();
        noSuchLaw();
        directions();
        farOverWhatLiesBetween();
        menNow();
        noSuchMan();
        stepsThatMayBe();
        counts();
        noSuchCount();
    }

    private static void newObject() {
        Said said = Said.by(1, "As told; no LAWS; THE LOT is 1.");
        OthersMan x = new OthersMan();
        int[] counts = {4, 4, 0, 0, 0, 0, 0};
        for (int what = 0; what < 7; what++) said.due("count " + what, x.count(what), counts[what]);
        for (int c = 0; c < 16; c++) said.due("cell " + c + " is plain", x.cell(c % 4, c / 4), 0);
        int[] men = {0, 15, -9, 1, 0, 15, 0, -9, 1, 0};
        for (int i = 0; i < 10; i++) said.due("man " + i, x.man(i / 5, i % 5), men[i]);
        int[] now = {0, 0, 0, -9};
        for (int what = 0; what < 4; what++) said.due("now " + what, x.now(what), now[what]);
        said.due("no law 0", x.law(0, 0), -1);
        said.due("the trace", x.trace(), 0);
        said.due("no image 0", x.back(0), -2);
        said.due("no image 1", x.back(1), -2);
        said.due("the lot", x.lot(0), 1);
        OthersMan read = new OthersMan();
        read.board();
        Twins.same(said, "as the empty text tells", new OthersMan(), read);
        OthersMan one = Checks.told(Twins.RICH);
        one.tell(6);
        Twins.same(said, "whatever another object does", new OthersMan(), read());
    }

    private static OthersMan read() {
        OthersMan x = new OthersMan();
        x.board();
        return x;
    }

    private static void menAtFirst() {
        Said said = Said.by(1, "MEN 0 and 1 have a cell, a HOME, a LAW, REFUSALS (0 .. 2; 1 at first). MAN 0 is A's, MAN 1 is B's. "
            + "(At first MAN 0 is on cell 0, its HOME is the last cell; MAN 1 the other way about; LAW 0 each.)");
        for (int w = 2; w <= 4; w++) {
            for (int h = 2; h <= 4; h++) {
                OthersMan x = Checks.told("board " + w + " " + h + ";law 2 0;law 1 0;");
                int[] men = {0, w * h - 1, 0, 1, 0, w * h - 1, 0, 0, 1, h > 2 ? 1 : 0};
                for (int i = 0; i < 10; i++) said.due(w + " times " + h + ", man " + i, x.man(i / 5, i % 5), men[i]);
            }
        }
        for (int n = 0; n <= 2; n++) {
            OthersMan x = Checks.told("refuses 0 " + n + ";refuses 1 " + (2 - n) + ";");
            said.due("REFUSALS of man 0", x.man(0, 3), n);
            said.due("REFUSALS of man 1", x.man(1, 3), 2 - n);
        }
    }

    private static void numbersOfCells() {
        Said said = Said.by(7, ", cell x y (x to the right, y down, from 0; its number is WIDE times y and x).");
        for (int w = 2; w <= 4; w++) {
            for (int h = 2; h <= 4; h++) {
                for (int c = 0; c < w * h; c++) {
                    String xy = " " + c % w + " " + c / w + ";";
                    OthersMan x = Checks.told("board " + w + " " + h + ";man 0" + xy + "home 1" + xy);
                    said.due("cell of man 0 at" + xy, x.man(0, 0), c);
                    said.due("HOME of man 1 at" + xy, x.man(1, 1), c);
                }
            }
        }
    }

    private static void kindsOfCells() {
        Said said = Said.by(5, "What a cell is: 0 plain, 1 a PIT, 2 a BELL, 3 a WALL. BAD.");
        Said terms = Said.by(5, "Cells are plain, PITS, BELLS or WALLS.");
        for (int w = 2; w <= 4; w++) {
            for (int h = 2; h <= 4; h++) {
                for (int kind = 1; kind <= 3; kind++) {
                    OthersMan first = Checks.told("board " + w + " " + h + ";" + CELLS[kind] + " 0 0;");
                    OthersMan last = Checks.told("board " + w + " " + h + ";" + CELLS[kind] + " " + (w - 1) + " " + (h - 1) + ";");
                    for (int c = 0; c < w * h; c++) {
                        said.due("the first is " + kind + ", cell " + c, first.cell(c % w, c / w), c == 0 ? kind : 0);
                        terms.due("the last is " + kind + ", cell " + c, last.cell(c % w, c / w), c == w * h - 1 ? kind : 0);
                    }
                }
            }
        }
    }

    private static void beyondTheBoard() {
        Said said = Said.by(5, "What a cell is: 0 plain, 1 a PIT, 2 a BELL, 3 a WALL. BAD.");
        int[] beyond = {-1, -2, 4, 5, 15, 16, Integer.MIN_VALUE, Integer.MAX_VALUE};
        for (int v : beyond) {
            Twins.refusedAnywhere(said, "x " + v, x -> x.cell(v, 0), -1);
            Twins.refusedAnywhere(said, "x, not on the first row, " + v, x -> x.cell(v, 1), -1);
            Twins.refusedAnywhere(said, "y " + v, x -> x.cell(0, v), -1);
            Twins.refusedAnywhere(said, "both " + v, x -> x.cell(v, v), -1);
        }
        for (int w = 2; w <= 4; w++) {
            for (int h = 2; h <= 4; h++) {
                OthersMan x = Checks.told("board " + w + " " + h + ";wall 0 1;");
                said.due("x is WIDE of " + w + " times " + h, x.cell(w, 0), -1);
                said.due("x is WIDE less 1", x.cell(w - 1, 0), 0);
                said.due("y is HIGH", x.cell(0, h), -1);
                said.due("y is HIGH less 1", x.cell(0, h - 1), h == 2 ? 3 : 0);
                said.due("x is below 0", x.cell(-1, 1), -1);
                said.due("y is below 0", x.cell(w - 1, -1), -1);
            }
        }
    }

    private static void lawsAsked() {
        Said said = Said.by(6, "Of a LAW: how far (what = 0), its directions as bits (1). BAD.");
        for (int far = 1; far <= 2; far++) {
            for (int d = 0; d < 8; d++) {
                OthersMan x = Checks.told("law " + far + " " + d + ";");
                said.due("how far", x.law(0, 0), far);
                said.due("the direction " + d + " alone", x.law(0, 1), 1 << d);
            }
        }
        OthersMan x = Checks.told("law 2 7 6 5 4 3 2 1 0;law 1 0 1 2 3 4 5 6 7;law 1 7 0;");
        said.due("all of them, from the last", x.law(0, 1), 255);
        said.due("all of them, from the first", x.law(1, 1), 255);
        said.due("the first and the last", x.law(2, 1), 129);
        said.due("far, of the first", x.law(0, 0), 2);
        said.due("far, of the last", x.law(2, 0), 1);
    }

    private static void noSuchLaw() {
        Said said = Said.by(6, "LAWS 0 .. (3 at most):");
        for (int laws = 0; laws <= 3; laws++) {
            OthersMan x = Checks.told("law 2 3;".repeat(laws));
            said.due("how many", x.count(2), laws);
            for (int l = 0; l < 5; l++) {
                said.due("law " + l + " of " + laws, x.law(l, 0), l < laws ? 2 : -1);
                said.due("directions of law " + l + " of " + laws, x.law(l, 1), l < laws ? 8 : -1);
            }
        }
        Twins.notLet(said, "law", (x, l) -> x.law(l, 0), -1, -1, 3, 4);
        Twins.notLet(said, "what of law 0", (x, what) -> x.law(0, what), -1, -1, 2, 3);
        Twins.notLet(said, "directions of law", (x, l) -> x.law(l, 1), -1, -1, 3, 4);
        Twins.refused(said, "none of no laws", Twins::fresh, x -> x.law(0, 1), -1);
    }

    private static void directions() {
        Said said = Said.by(8, "STEPS by directions 0 .. 7 (by eighths: 0 up, 1 up and right, 2 right, ..)");
        for (int d = 0; d < 8; d++) {
            String man0 = d == 7 ? "man 0 2 2;" : "man 0 0 0;";
            OthersMan x = Checks.told("board 3 3;law 1 0 1 2 3 4 5 6 7;home 1 1 1;home 0 1 1;man 1 1 1;" + man0);
            said.due("direction " + d, x.tell(d), 0);
            said.due("direction " + d + " leads to", x.man(1, 0), AROUND[d]);
        }
    }

    /** By steps of two over a cell of each kind, and over the other man; nothing comes of what lies between. */
    private static void farOverWhatLiesBetween() {
        Said said = Said.by(8, ", each so far (1 or 2 cells at once, over what lies between).");
        String row = "board 4 2;law 2 6 2;man 1 2 0;man 0 0 1;home 1 1 0;home 0 1 1;";
        String[] between = {"", "pit 1 0;", "bell 1 0;", "wall 1 0;", "man 0 1 0;home 0 3 1;"};
        for (String b : between) {
            OthersMan x = Checks.told(row + b);
            said.due("it goes on, over " + b, x.tell(6), 0);
            said.due("two cells, over " + b, x.man(1, 0), 0);
            said.due("B tells then, over " + b, x.now(0), 1);
        }
        OthersMan edge = Checks.told("law 2 0 1 2 3 4 5 6 7;man 0 1 1;man 1 2 2;");
        said.due("off the board from one cell off its side", edge.man(0, 4), 4 | 8 | 16);
        said.due("and on the other side", edge.man(1, 4), 1 | 64 | 128);
        OthersMan corner = Checks.told("law 2 0 1 2 3 4 5 6 7;man 0 3 0;man 1 0 3;");
        said.due("from the corner up and right", corner.man(0, 4), 16 | 32 | 64);
        said.due("from the corner down and left", corner.man(1, 4), 1 | 2 | 4);
        OthersMan one = Checks.told("law 1 0 1 2 3 4 5 6 7;man 0 3 0;man 1 0 3;");
        said.due("by one from the corner", one.man(0, 4), 16 | 32 | 64);
        said.due("by one from the other", one.man(1, 4), 1 | 2 | 4);
        said.due("by two on the smallest board", Checks.told("board 2 2;law 2 0 1 2 3 4 5 6 7;").man(0, 4), 0);
    }

    private static void menNow() {
        Said said = Said.by(7, "Of a MAN NOW: 0 its cell, 1 HOME, 2 LAW (NONE: no LAWS), 3 REFUSALS left, 4 directions that MAY be "
            + "(bits; one that may not be told just now, too). BAD.");
        OthersMan none = new OthersMan();
        said.due("no laws: man 0", none.man(0, 2), -9);
        said.due("no laws: man 1", none.man(1, 2), -9);
        for (int l = 0; l < 3; l++) {
            OthersMan x = Checks.told("law 1 0;law 1 2;law 1 4;uses 0 " + l + ";uses 1 " + (2 - l) + ";");
            said.due("law of man 0", x.man(0, 2), l);
            said.due("law of man 1", x.man(1, 2), 2 - l);
        }
        OthersMan x = Twins.amid();
        int[] amid = {5, 4, 2, 1, 207, 9, 0, 0, 2, 4};
        for (int i = 0; i < 10; i++) said.due("amid, man " + i, x.man(i / 5, i % 5), amid[i]);
        OthersMan over = Twins.over();
        int[] done = {4, 4, 2, 2, 1 | 2 | 4, 9, 0, 0, 2, 1 | 4};
        for (int i = 0; i < 10; i++) said.due("over, man " + i, over.man(i / 5, i % 5), done[i]);
        OthersMan left = Checks.told("law 1 0 6;refuses 1 2;law 1 2 4;uses 0 1;");
        said.due("two left", left.man(1, 3), 2);
        left.refuse(0);
        said.due("one left", left.man(1, 3), 1);
        said.due("the other man's stay", left.man(0, 3), 1);
        said.due("the one that may not be told just now, too", left.man(1, 4), 1 | 64);
        left.tell(6);
        left.tell(2);
        left.refuse(6);
        said.due("none left", left.man(1, 3), 0);
    }

    private static void noSuchMan() {
        Said said = Said.by(7, "Refused, and nothing changes, the first of these: BAD (a number is not as told, or there is no such "
            + "thing)");
        for (int what = 0; what < 5; what++) {
            int asked = what;
            Twins.notLet(said, "what " + what + " of man", (x, m) -> x.man(m, asked), -1, -1, 2);
        }
        for (int m = 0; m < 2; m++) {
            int man = m;
            Twins.notLet(said, "of man " + m + ", what", (x, what) -> x.man(man, what), -1, -1, 5, 6);
        }
    }

    private static void stepsThatMayBe() {
        Said said = Said.by(7, "A step MAY be by a direction of that man's LAW (no LAWS: none), if the cell it leads to is on THE "
            + "BOARD, no WALL, and the other man is not on it.");
        said.due("no laws", new OthersMan().man(1, 4), 0);
        int[] corners = {0, 3, 12, 15};
        int[] due = {4 | 8 | 16, 16 | 32 | 64, 1 | 2 | 4, 1 | 64 | 128};
        for (int i = 0; i < 4; i++) {
            String xy = corners[i] % 4 + " " + corners[i] / 4 + ";";
            String opposite = (15 - corners[i]) % 4 + " " + (15 - corners[i]) / 4 + ";";
            OthersMan x = Checks.told("law 1 0 1 2 3 4 5 6 7;man 0 " + opposite + "man 1 " + xy);
            said.due("off the board, from " + xy, x.man(1, 4), due[i]);
        }
        for (int d = 0; d < 8; d++) {
            String to = AROUND[d] % 3 + " " + AROUND[d] / 3 + ";";
            String middle = "board 3 3;law 1 0 1 2 3 4 5 6 7;man 1 1 1;man 0 1 1;";
            said.due("all", Checks.told(middle).man(1, 4), 255);
            said.due("onto a WALL by " + d, Checks.told(middle + "wall " + to).man(1, 4), 255 - (1 << d));
            said.due("onto a PIT by " + d, Checks.told(middle + "pit " + to).man(1, 4), 255);
            said.due("onto a BELL by " + d, Checks.told(middle + "bell " + to).man(1, 4), 255);
            OthersMan other = Checks.told(middle + "man 0 " + to);
            said.due("onto the other man by " + d, other.man(1, 4), 255 - (1 << d));
            OthersMan without = Checks.told(middle + lawWithout(d) + "uses 1 1;");
            said.due("not by its LAW: " + d, without.man(1, 4), 255 - (1 << d));
            said.due("by the other man's LAW, all", without.man(0, 4), 255);
        }
        String walled = "wall 0 1;wall 1 0;wall 1 1;law 1 0 1 2 3 4 5 6 7;";
        said.due("none, walled in", Checks.told(walled).man(0, 4), 0);
        said.due("off a WALL it may", Checks.told("wall 0 0;law 1 2;").man(0, 4), 4);
        OthersMan same = Checks.told("law 1 2 6;man 0 1 1;man 1 1 1;");
        said.due("from where the other man is, too", same.man(0, 4), 4 | 64);
        said.due("of the other one, too", same.man(1, 4), 4 | 64);
    }

    private static String lawWithout(int left) {
        StringBuilder law = new StringBuilder("law 1");
        for (int d = 0; d < 8; d++) if (d != left) law.append(' ').append(d);
        return law.append(';').toString();
    }

    private static void counts() {
        Said said = Said.by(27, "0 WIDE, 1 HIGH, 2 LAWS, 3 PITS, 4 BELLS, 5 WALLS, 6 bytes of THE TEXT. BAD.");
        for (int kind = 1; kind <= 3; kind++) {
            StringBuilder text = new StringBuilder();
            for (int c = 0; c < 16; c++) {
                OthersMan x = Checks.told(text.toString());
                for (int k = 1; k <= 3; k++) said.due(c + " of kind " + kind + ", those of " + k, x.count(2 + k), k == kind ? c : 0);
                text.append(CELLS[kind]).append(c % 4).append(' ').append(c / 4).append(';');
            }
            said.due("all of kind " + kind, Checks.told(text.toString()).count(2 + kind), 16);
        }
        for (int w = 2; w <= 4; w++) {
            OthersMan x = Checks.told("board " + w + " " + (6 - w) + ";law 1 0;");
            said.due("WIDE", x.count(0), w);
            said.due("HIGH", x.count(1), 6 - w);
            said.due("LAWS", x.count(2), 1);
        }
        OthersMan x = new OthersMan();
        said.due("no bytes", x.count(6), 0);
        Checks.typed(x, "?".repeat(299));
        said.due("299 bytes", x.count(6), 299);
        x.type('?', 1);
        said.due("300 bytes", x.count(6), 300);
        said.due("a fault", x.board(), -10);
        said.due("300 bytes still", x.count(6), 300);
        said.due("laws are counted as they stand", x.count(2), 0);
        for (int what = 0; what < 7; what++) {
            int asked = what;
            Twins.changesNothing(said, "what " + what, y -> y.count(asked));
        }
    }

    private static void noSuchCount() {
        Said said = Said.by(27, "6 bytes of THE TEXT. BAD.");
        Twins.notLet(said, "what", OthersMan::count, -1, -1, 7, 8);
        for (int v : new int[] {OthersMan.BAD, OthersMan.STATE, OthersMan.FULL, OthersMan.NONE, OthersMan.NO}) {
            Twins.refused(said, "what " + v, Twins::fresh, x -> x.count(v), -1);
        }
    }
}

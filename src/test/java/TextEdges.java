/** Promises 2, 3 and 4: the text, its bytes and tokens, and where its faults are, at the edges that the document names. */
final class TextEdges {
    private static final String[] WORDS = {"board", "pit", "bell", "wall", "law", "man", "home", "uses", "refuses"};
    private static final String[] ITEMS = {"board 3 3;", "pit 0 0;", "bell 0 0;", "wall 0 0;", "law 1 0;", "man 1 1 1;",
        "home 1 0 0;", "uses 1 0;", "refuses 1 0;"};
    /** What stands ahead of an item, so that it may be told. */
    private static final String[] AHEAD = {"", "", "", "", "", "", "", "law 1 0;", ""};

    private TextEdges() { }

    static void run() {
        oneToEightBytes();
        highestFirst();
        howManyItHas();
        threeHundredBytes();
        badAheadOfFull();
        cleared();
        howManyItems();
        tellsAll();
        faultChangesNothing();
        eachByte();
        blanks();
        blanksNotNeeded();
        eachEndedBySemicolon();
        boardFirst();
        sidesOfTheBoard();
        cellsToldAgain();
        lawsTold();
        menTold();
        menOnCells();
        homesUsesRefuses();
        words();
        numbers();
        firstFault();
        endsTooEarly();
    }

    private static int faultAt(int place) {
        return -10 - place;
    }

    /** The number that stands between the words may be so much at least and at most; beyond that it is a fault. */
    private static void mayBe(Said said, String ahead, int least, int most, String behind) {
        int items = (int) (ahead + behind).chars().filter(c -> c == ';').count();
        for (int v = 0; v <= 12; v++) {
            int due = v >= least && v <= most ? items : faultAt(ahead.length());
            said.due(ahead + "[" + v + "]" + behind, Checks.read(ahead + v + behind), due);
        }
        said.due(ahead + "[99]" + behind, Checks.read(ahead + 99 + behind), faultAt(ahead.length()));
    }

    private static void oneToEightBytes() {
        Said said = Said.by(2, "The lowest n (1 .. 8) bytes of v");
        Twins.notLet(said, "n", (x, n) -> x.type(' ', n), -1, 0, -1, 9, 10);
        String text = "bell 3 2;pit 1 2;";
        for (int n = 1; n <= 8; n++) {
            OthersMan x = new OthersMan();
            for (int i = 0; i < text.length(); i += n) {
                String part = text.substring(i, Math.min(i + n, text.length()));
                // What stands above the lowest bytes is not to come to the text.
                long junk = part.length() < 8 ? 0x7b3b7b3b7b3b7b3bL << 8 * part.length() : 0;
                said.due(n + " at once", x.type(junk | Checks.packed(part), part.length()), i + part.length());
            }
            said.due(n + " at once are read", x.board(), 2);
            said.due(n + " at once, the bell", x.cell(3, 2), 2);
            said.due(n + " at once, the pit", x.cell(1, 2), 1);
        }
        for (long v : new long[] {Long.MIN_VALUE, Long.MAX_VALUE, -1L, 0L}) {
            OthersMan x = new OthersMan();
            said.due("the long " + v, x.type(v, 8), 8);
            said.due("the long " + v + " is eight bytes that begin nothing", x.board(), -10);
        }
        OthersMan x = new OthersMan();
        x.type(Long.MIN_VALUE | ' ', 1);
        said.due("the lowest byte of nearly the least long is a blank", x.board(), 0);
    }

    private static void highestFirst() {
        Said said = Said.by(2, "the highest of them first, come to THE TEXT");
        for (int i = 0; i < 8; i++) {
            StringBuilder s = new StringBuilder("        ");
            s.setCharAt(i, '?');
            said.due("the byte that is " + i + " behind the highest of eight", Checks.read(s.toString()), faultAt(i));
        }
        said.due("the highest of two", Checks.read("? "), faultAt(0));
        said.due("the lowest of two", Checks.read(" ?"), faultAt(1));
        said.due("behind those that are there", Checks.read("         ?"), faultAt(9));
    }

    private static void howManyItHas() {
        Said said = Said.by(2, ": how many it has. BAD; FULL.");
        OthersMan x = new OthersMan();
        int has = 0;
        for (int n = 1; n <= 8; n++) {
            has += n;
            said.due(n + " more", x.type(0x2020202020202020L, n), has);
            said.due(n + " more, counted", x.count(6), has);
        }
    }

    private static OthersMan blanksTyped(int bytes) {
        OthersMan x = new OthersMan();
        Checks.typed(x, " ".repeat(bytes));
        return x;
    }

    private static void threeHundredBytes() {
        Said said = Said.by(2, "They are a text (300 bytes at most)");
        for (int n = 1; n <= 8; n++) {
            int more = n;
            said.due("300, by the last " + n, blanksTyped(300 - n).type(0x2020202020202020L, n), 300);
            Twins.refused(said, "301, by the last " + n, () -> blanksTyped(301 - more), x -> x.type(-1L, more), -3);
            Twins.refused(said, n + " beyond 300", () -> blanksTyped(300), x -> x.type(-1L, more), -3);
        }
        OthersMan x = blanksTyped(299);
        said.due("two are too many", x.type(0x2020L, 2), -3);
        said.due("one is not", x.type(' ', 1), 300);
        said.due("full", x.type(' ', 1), -3);
        said.due("all are read", x.board(), 0);
        said.due("room again", x.type(' ', 1), 1);
        OthersMan cleared = blanksTyped(300);
        said.due("300 cleared", cleared.clear(), 300);
        said.due("room again behind clear", cleared.type(-1L, 8), 8);
    }

    private static void badAheadOfFull() {
        Said said = Said.by(2, "Refused, and nothing changes, the first of these: BAD (a number is not as told, or there is no "
            + "such thing), STATE (as told), FULL.");
        int[] numbers = {0, 9, -1, Integer.MIN_VALUE, Integer.MAX_VALUE};
        for (int n : numbers) {
            Twins.refused(said, "BAD ahead of FULL, " + n, () -> blanksTyped(300), x -> x.type(' ', n), -1);
            Twins.refused(said, "BAD ahead of FULL at 293, " + n, () -> blanksTyped(293), x -> x.type(' ', n), -1);
        }
    }

    private static void cleared() {
        Said said = Said.by(3, "THE TEXT is empty: how many bytes it had.");
        for (int bytes : new int[] {0, 1, 8, 299, 300}) {
            OthersMan x = blanksTyped(bytes);
            said.due(bytes + " bytes", x.clear(), bytes);
            said.due(bytes + " bytes, empty", x.count(6), 0);
            said.due(bytes + " bytes, none now", x.clear(), 0);
            said.due(bytes + " bytes, nothing to read", x.board(), 0);
        }
        OthersMan faulty = new OthersMan();
        Checks.typed(faulty, "pit 1 1;?");
        said.due("a fault", faulty.board(), faultAt(8));
        said.due("behind a fault", faulty.clear(), 9);
        Checks.typed(faulty, "bell 0 0;");
        said.due("what is typed behind that alone is read", faulty.board(), 1);
        said.due("no pit of before", faulty.count(3), 0);
        OthersMan x = Twins.amid();
        x.clear();
        Checks.typed(x, "pit 1");
        Twins.same(said, "all but the text stays", x, Twins.amid());
    }

    private static void howManyItems() {
        Said said = Said.by(4, "THE TEXT tells all, and is empty then: how many ITEMS.");
        said.due("the empty text", Checks.read(""), 0);
        said.due("blanks alone", Checks.read(" ".repeat(300)), 0);
        for (int items = 1; items <= 42; items++) said.due(items + " items", Checks.read("pit0 0;".repeat(items)), items);
        said.due("42 items, full", Checks.read("pit0 0;".repeat(42) + " ".repeat(6)), 42);
        said.due("one of each", Checks.read(String.join("", ITEMS)), 9);
        OthersMan x = new OthersMan();
        Checks.typed(x, "pit0 0;".repeat(42));
        x.board();
        said.due("empty then", x.count(6), 0);
        said.due("nothing to clear", x.clear(), 0);
        said.due("once more: no items", x.board(), 0);
        said.due("and no pits", x.count(3), 0);
    }

    private static void tellsAll() {
        Said said = Said.by(4, "THE TEXT tells all");
        for (int left = 0; left < ITEMS.length; left++) {
            OthersMan x = richTwice();
            OthersMan y = new OthersMan();
            StringBuilder text = new StringBuilder();
            for (int i = 0; i < ITEMS.length; i++) {
                if (i != left && (left != 4 || i != 7)) text.append(ITEMS[i]);
            }
            Checks.typed(x, text.toString());
            x.board();
            Checks.typed(y, text.toString());
            y.board();
            Twins.same(said, "what is not told (" + WORDS[left] + ") is as at first", x, y);
        }
        noCellIsLeft(said);
        Said anew = Said.by(4, "(Read anew: the POSITION is as at first, IMAGES are gone; THE LOT stays; THE TRACE goes on, as "
            + "behind back().)");
        OthersMan x = Twins.amid();
        x.clear();
        Checks.typed(x, Twins.RICH);
        anew.due("anew", x.board(), 15);
        int[] man = {1, 4, 2, 2, 124, 10, 0, 0, 2, 69};
        for (int i = 0; i < 10; i++) anew.due("man " + i, x.man(i / 5, i % 5), man[i]);
        int[] now = {0, 0, 0, -9};
        for (int what = 0; what < 4; what++) anew.due("now " + what, x.now(what), now[what]);
        anew.due("image 0", x.back(0), -2);
        anew.due("image 1", x.back(1), -2);
        anew.due("the trace", x.trace(), 1011);
        anew.due("the lot", x.lot(0), 777);
        OthersMan over = Twins.over();
        over.clear();
        anew.due("by no items", over.board(), 0);
        anew.due("goes on", over.now(2), 0);
        anew.due("its image is gone", over.back(0), -2);
        anew.due("its trace goes on", over.trace(), 10101);
    }

    /** Each cell is told by two texts, so whatever rows are read into in turn have had it. */
    private static void noCellIsLeft(Said said) {
        for (int kind = 1; kind <= 3; kind++) {
            StringBuilder all = new StringBuilder();
            for (int c = 0; c < 16; c++) all.append(WORDS[kind]).append(c % 4).append(' ').append(c / 4).append(';');
            OthersMan x = Checks.told(all.toString());
            Checks.typed(x, all.toString());
            said.due("each cell " + WORDS[kind] + ", again", x.board(), 16);
            for (int read = 0; read < 3; read++) {
                said.due("nothing is told", x.board(), 0);
                for (int c = 0; c < 16; c++) said.due("cell " + c + " is plain, no " + WORDS[kind], x.cell(c % 4, c / 4), 0);
            }
        }
    }

    /** Read twice, and a third time up to a fault, so that none of its rows is as at first. */
    private static OthersMan richTwice() {
        OthersMan x = Checks.told(Twins.RICH);
        Checks.typed(x, Twins.RICH);
        Checks.due("read again", x.board(), 15);
        Checks.typed(x, Twins.RICH + "?");
        Checks.due("a fault", x.board(), faultAt(Twins.RICH.length()));
        x.clear();
        return x;
    }

    private static OthersMan amidWith(String text) {
        OthersMan x = Twins.amid();
        x.clear();
        Checks.typed(x, text);
        return x;
    }

    private static void faultChangesNothing() {
        Said said = Said.by(4, "-10 less FAULT: nothing changes (THE TEXT stays, too).");
        Twins.refused(said, "ends too early, amid", Twins::amid, OthersMan::board, faultAt(5));
        Twins.refused(said, "ends too early, over", Twins::over, OthersMan::board, faultAt(8));
        String much = "board 2 2;law 2 0;pit 0 1;bell 1 0;man 0 1 1;home 0 0 1;uses 1 0;refuses 0 0;";
        Twins.refused(said, "a fault behind much", () -> amidWith(much + "wall 2 0;"), OthersMan::board, faultAt(much.length() + 5));
        Twins.refused(said, "at once", () -> amidWith("?"), OthersMan::board, faultAt(0));
        Twins.refused(said, "at the last byte of 300", () -> amidWith(much + " ".repeat(299 - much.length()) + "?"),
            OthersMan::board, faultAt(299));
        Twins.refused(said, "again and again", () -> amidWith("pit 9 9;"), x -> {
            x.board();
            x.board();
            return x.board();
        }, faultAt(4));
        OthersMan x = amidWith("pit 0 0;bell");
        said.due("the text stays", x.board(), faultAt(12));
        said.due("all of it", x.count(6), 12);
        Checks.typed(x, " 2 2;");
        said.due("and can be typed on", x.board(), 2);
    }

    /** Each byte there is, ahead of, behind and within an item. */
    private static void eachByte() {
        Said said = Said.by(4, "of a byte that begins none");
        for (int b = 0; b < 256; b++) {
            char c = (char) b;
            boolean digit = c >= '0' && c <= '9';
            String name = "byte " + b;
            said.due(name + " alone", Checks.read("" + c), b == ' ' ? 0 : faultAt(0));
            said.due(name + " ahead", Checks.read(c + "pit 1 1;"), b == ' ' ? 1 : faultAt(0));
            said.due(name + " behind", Checks.read("pit 1 1;" + c), b == ' ' ? 1 : faultAt(8));
            said.due(name + " between", Checks.read("pit 1" + c + "1;"), b == ' ' ? 1 : digit ? faultAt(4) : faultAt(5));
            int within = b == ' ' ? 1 : digit ? faultAt(6) : b == ';' ? faultAt(8) : faultAt(7);
            said.due(name + " ahead of the end", Checks.read("pit 1 1" + c + ";"), within);
        }
    }

    private static void blanks() {
        Said said = Said.by(4, "read byte by byte, blanks (32), any number, ahead of, between, behind TOKENS");
        String[] tokens = {"board", "4", "3", ";", "man", "1", "2", "1", ";"};
        for (int k = 1; k <= 20; k++) {
            String gap = " ".repeat(k);
            OthersMan x = Checks.told(gap + String.join(gap, tokens) + gap);
            said.due(k + " everywhere", x.man(1, 0), 6);
        }
        said.due("292 ahead", Checks.read(" ".repeat(292) + "pit 1 1;"), 1);
        said.due("292 behind", Checks.read("pit 1 1;" + " ".repeat(292)), 1);
        said.due("293 behind the word", Checks.read("pit" + " ".repeat(293) + "1 1;"), 1);
        said.due("293 between the numbers", Checks.read("pit 1" + " ".repeat(293) + "1;"), 1);
        said.due("292 ahead of the end", Checks.read("pit 1 1" + " ".repeat(292) + ";"), 1);
        said.due("within a word", Checks.read("pi t 1 1;"), faultAt(0));
        said.due("within a number there are two", Checks.read("law 1 1 0;"), 1);
    }

    private static void blanksNotNeeded() {
        Said said = Said.by(4, "(needed only between two rows of letters, two NUMBERS)");
        said.due("between a word and a number", Checks.read("board4 3;pit1 1;bell1 1;wall1 1;law1 0;man1 0 0;home1 0 0;"
            + "uses1 0;refuses1 0;"), 9);
        said.due("between a number and a word", Checks.read("pit 0 0bell 1 1;"), faultAt(7));
        said.due("between two words", Checks.read("pitbell 0 0;"), faultAt(0));
        said.due("between two words, told", Checks.read("pit bell 0 0;"), faultAt(4));
        said.due("between two numbers", Checks.read("pit 11;"), faultAt(4));
        said.due("between two numbers, a 0 ahead", Checks.read("pit 01;"), faultAt(4));
        said.due("behind the end", Checks.read("pit 0 0;bell 0 0;"), 2);
    }

    private static void eachEndedBySemicolon() {
        Said said = Said.by(4, "ITEMS (none, too), each ended by ;");
        said.due("none", Checks.read(""), 0);
        for (int i = 0; i < ITEMS.length; i++) {
            String open = AHEAD[i] + ITEMS[i].substring(0, ITEMS[i].length() - 1);
            said.due("not ended: " + open, Checks.read(open), faultAt(open.length()));
            said.due("another behind: " + open, Checks.read(open + " pit 0 0;"), faultAt(open.length() + 1));
            said.due("ended twice: " + open, Checks.read(open + ";;"), faultAt(open.length() + 1));
        }
        said.due("the end alone", Checks.read(";"), faultAt(0));
        said.due("by another sign", Checks.read("pit 0 0:"), faultAt(7));
    }

    private static void boardFirst() {
        Said said = Said.by(4, ": board W H (the first of all, if it is told) ;");
        OthersMan x = Checks.told("pit 3 3;");
        said.due("not told: WIDE", x.count(0), 4);
        said.due("not told: HIGH", x.count(1), 4);
        Said behind = Said.by(4, "board behind another ITEM");
        for (int i = 0; i < ITEMS.length; i++) {
            String ahead = AHEAD[i] + ITEMS[i];
            behind.due("behind " + ahead, Checks.read(ahead + "board 3 3;"), faultAt(ahead.length()));
        }
        behind.due("behind two", Checks.read("pit 0 0; pit 0 0; board 4 4;"), faultAt(18));
        behind.due("behind blanks it is first", Checks.read("   board 3 2;"), 1);
        behind.due("the word alone is the fault", Checks.read("pit 0 0;board"), faultAt(8));
    }

    private static void sidesOfTheBoard() {
        Said said = Said.by(4, "THE BOARD has WIDE times HIGH cells (2 ..");
        said.due("W and H too few", Checks.read("board 3;"), faultAt(7));
        said.due("W and H missing", Checks.read("board;"), faultAt(5));
        said.due("a third", Checks.read("board 3 3 3;"), faultAt(10));
        Said sides = Said.by(4, "4 each; at first 4 and 4)");
        for (int other = 2; other <= 4; other++) {
            mayBe(sides, "board ", 2, 4, " " + other + ";");
            mayBe(sides, "board " + other + " ", 2, 4, ";");
        }
        for (int w = 2; w <= 4; w++) {
            for (int h = 2; h <= 4; h++) {
                OthersMan x = Checks.told("board " + w + " " + h + ";");
                sides.due("WIDE", x.count(0), w);
                sides.due("HIGH", x.count(1), h);
            }
        }
    }

    private static void cellsToldAgain() {
        Said said = Said.by(4, "; pit X Y, bell X Y, wall X Y (told again, what is later counts) ;");
        for (int first = 1; first <= 3; first++) {
            for (int w = 2; w <= 4; w++) {
                for (int h = 2; h <= 4; h++) {
                    String board = "board " + w + " " + h + ";" + WORDS[first];
                    mayBe(said, board + " ", 0, w - 1, " 0;");
                    mayBe(said, board + " 0 ", 0, h - 1, ";");
                }
            }
            mayBe(said, WORDS[first] + " ", 0, 3, " 3;");
            mayBe(said, WORDS[first] + " 3 ", 0, 3, ";");
            said.due("one number", Checks.read(WORDS[first] + " 1;"), faultAt(WORDS[first].length() + 2));
            said.due("three numbers", Checks.read(WORDS[first] + " 1 1 1;"), faultAt(WORDS[first].length() + 5));
            for (int then = 1; then <= 3; then++) {
                OthersMan x = Checks.told(WORDS[first] + " 2 1;" + WORDS[then] + " 2 1;");
                said.due(WORDS[first] + ", then " + WORDS[then], x.cell(2, 1), then);
                for (int kind = 1; kind <= 3; kind++) said.due("counted once", x.count(2 + kind), kind == then ? 1 : 0);
                OthersMan back = Checks.told(WORDS[first] + " 2 1;" + WORDS[then] + " 2 1;" + WORDS[first] + " 2 1;");
                said.due(WORDS[first] + " again behind " + WORDS[then], back.cell(2, 1), first);
            }
        }
    }

    private static void lawsTold() {
        Said said = Said.by(4, "law F D D .. (F 1 or 2 far, then one direction at least, each once) ;");
        mayBe(said, "law ", 1, 2, " 0;");
        mayBe(said, "law 1 ", 0, 7, ";");
        mayBe(said, "law 2 ", 0, 7, ";");
        said.due("no F", Checks.read("law;"), faultAt(3));
        said.due("no direction", Checks.read("law 1;"), faultAt(5));
        StringBuilder all = new StringBuilder("law 2");
        for (int d = 7; d >= 0; d--) {
            all.append(' ').append(d);
            said.due("directions down to " + d, Checks.read(all + ";"), 1);
            said.due("directions down to " + d + ", an 8", Checks.read(all + " 8;"), faultAt(all.length() + 1));
        }
        Said again = Said.by(4, "a direction again");
        for (int d = 0; d < 8; d++) {
            again.due(d + " twice", Checks.read("law 1 " + d + " " + d + ";"), faultAt(8));
            again.due(d + " ninth", Checks.read(all + " " + d + ";"), faultAt(all.length() + 1));
        }
        again.due("the first behind another", Checks.read("law 1 1 2 1;"), faultAt(10));
        again.due("F is no direction", Checks.read("law 1 1;law 2 2 1;"), 2);
        again.due("in another law", Checks.read("law 1 3;law 1 3;"), 2);
        Said fourth = Said.by(4, "a fourth law");
        for (int laws = 1; laws <= 3; laws++) fourth.due(laws + " laws", Checks.read("law 1 0;".repeat(laws)), laws);
        fourth.due("four", Checks.read("law 1 0;".repeat(4)), faultAt(24));
        fourth.due("the word alone", Checks.read("law 1 0;".repeat(3) + "law"), faultAt(24));
        fourth.due("later", Checks.read("law 1 0;".repeat(3) + "pit 0 0; law 1 0;"), faultAt(33));
    }

    private static void menTold() {
        Said said = Said.by(4, "man M X Y (no PIT, no WALL as it is then; where the other man is, too), home M X Y");
        for (String word : new String[] {"man", "home"}) {
            mayBe(said, word + " ", 0, 1, " 0 0;");
            said.due("no numbers", Checks.read(word + ";"), faultAt(word.length()));
            said.due("one number", Checks.read(word + " 1;"), faultAt(word.length() + 2));
            said.due("two numbers", Checks.read(word + " 1 1;"), faultAt(word.length() + 4));
            said.due("four numbers", Checks.read(word + " 1 1 1 1;"), faultAt(word.length() + 7));
            for (int w = 2; w <= 4; w++) {
                for (int h = 2; h <= 4; h++) {
                    String board = "board " + w + " " + h + ";" + word + " 1 ";
                    mayBe(said, board, 0, w - 1, " 0;");
                    mayBe(said, board + "0 ", 0, h - 1, ";");
                }
            }
        }
        OthersMan both = Checks.told("man 0 2 1;man 1 2 1;");
        said.due("where the other man is", both.man(1, 0), 6);
        said.due("who stays there", both.man(0, 0), 6);
        said.due("where the other man is at first", Checks.told("man 0 3 3;").man(0, 0), 15);
        said.due("where it is itself", Checks.told("man 1 3 3;").man(1, 0), 15);
        said.due("again", Checks.told("man 1 2 2;man 1 1 0;").man(1, 0), 1);
        said.due("home again", Checks.told("home 1 2 2;home 1 1 0;").man(1, 1), 1);
    }

    private static void menOnCells() {
        Said said = Said.by(4, "the Y of a man by which it is on a PIT or a WALL (pits, walls may come where a man is)");
        for (int kind = 1; kind <= 3; kind++) {
            String told = WORDS[kind] + " 1 2;";
            boolean let = kind == 2;
            String man = told + "man 0 1 ";
            said.due("on " + WORDS[kind], Checks.read(man + "2;"), let ? 2 : faultAt(man.length()));
            said.due("on " + WORDS[kind] + ", with blanks", Checks.read(man + "    2;"), let ? 2 : faultAt(man.length() + 4));
            said.due("beside " + WORDS[kind], Checks.read(man + "1;"), 2);
            said.due("beside " + WORDS[kind] + ", too", Checks.read(told + "man 0 2 2;"), 2);
            said.due("not yet " + WORDS[kind], Checks.read("man 0 1 2;" + told), 2);
            said.due("where man 0 is at first, " + WORDS[kind], Checks.read(WORDS[kind] + " 0 0;"), 1);
            said.due("where man 1 is at first, " + WORDS[kind], Checks.read(WORDS[kind] + " 3 3;"), 1);
            OthersMan later = Checks.told("man 0 1 2;" + told);
            said.due("the man stays where " + WORDS[kind] + " comes", later.man(0, 0), 9);
            said.due("told there again", Checks.read("man 0 1 2;" + told + "man 0 1 2;"), let ? 3 : faultAt(10 + told.length() + 8));
            for (int then = 1; then <= 3; then++) {
                String turned = told + WORDS[then] + " 1 2;man 0 1 ";
                said.due("as it is then: " + turned, Checks.read(turned + "2;"), then == 2 ? 3 : faultAt(turned.length()));
            }
            said.due("home on " + WORDS[kind], Checks.read(told + "home 0 1 2;"), 2);
        }
    }

    private static void homesUsesRefuses() {
        Said said = Said.by(4, ", uses M L (a LAW that was told), refuses M N.");
        for (int laws = 1; laws <= 3; laws++) {
            mayBe(said, "law 1 0;".repeat(laws) + "uses 0 ", 0, laws - 1, ";");
            mayBe(said, "law 1 0;".repeat(laws) + "uses ", 0, 1, " 0;");
        }
        said.due("no law was told", Checks.read("uses 0 0;law 1 0;"), faultAt(7));
        said.due("it is told later", Checks.read("law 1 0;uses 0 1;law 1 0;"), faultAt(15));
        mayBe(said, "refuses 0 ", 0, 2, ";");
        mayBe(said, "refuses 1 ", 0, 2, ";");
        mayBe(said, "refuses ", 0, 1, " 2;");
        for (String word : new String[] {"uses", "refuses"}) {
            String ahead = "law 1 0;" + word;
            said.due("no numbers", Checks.read(ahead + ";"), faultAt(ahead.length()));
            said.due("one number", Checks.read(ahead + " 0;"), faultAt(ahead.length() + 2));
            said.due("three numbers", Checks.read(ahead + " 0 0 0;"), faultAt(ahead.length() + 5));
        }
        said.due("uses again", Checks.told("law 1 0;law 1 1;uses 1 1;uses 1 0;").man(1, 2), 0);
        said.due("refuses again", Checks.told("refuses 1 2;refuses 1 0;").man(1, 3), 0);
    }

    private static void words() {
        Said said = Said.by(4, "TOKENS are words of letters a .. z (board, pit, bell, wall, law, man, home, uses, refuses), "
            + "NUMBERS and ; .");
        for (int i = 0; i < WORDS.length; i++) {
            String ahead = AHEAD[i];
            String behind = ITEMS[i].substring(WORDS[i].length());
            said.due(WORDS[i], Checks.read(ahead + WORDS[i] + behind), ahead.isEmpty() ? 1 : 2);
            Said none = Said.by(4, "a word that is none of these");
            String word = WORDS[i];
            String upper = word.toUpperCase();
            String[] others = {word.substring(1), word.substring(0, word.length() - 1), word + "s", word + word, "a" + word,
                word + "a", word.charAt(0) + upper.substring(1), upper, upper.charAt(0) + word.substring(1), word.substring(0, 1)};
            for (int k = 0; k < word.length(); k++) {
                String changed = word.substring(0, k) + (char) (word.charAt(k) + 1) + word.substring(k + 1);
                none.due(changed, Checks.read(ahead + changed + behind), faultAt(ahead.length()));
                String z = word.substring(0, k + 1) + "z" + word.substring(k + 1);
                none.due(z, Checks.read(ahead + z + behind), faultAt(ahead.length()));
            }
            for (String other : others) {
                none.due(other, Checks.read(ahead + other + behind), faultAt(ahead.length()));
                none.due(other + " behind an item", Checks.read("bell 1 1;" + ahead + "  " + other + behind),
                    faultAt(11 + ahead.length()));
            }
            none.due(word + " within an item", Checks.read("pit 0 " + word), faultAt(6));
        }
    }

    private static void numbers() {
        Said said = Said.by(4, "a NUMBER above 99 or with a 0 ahead of others, that TOKEN's");
        String[] faulty = {"99", "100", "101", "256", "1000", "4294967296", "18446744073709551616", "00", "01", "000", "02",
            "0000000000000000000000000000000001", "010"};
        String[] aheads = {"board ", "board 2 ", "pit ", "pit 1 ", "law ", "law 1 ", "law 1 3 ", "man ", "man 1 ", "man 1 1 ",
            "home 0 2 ", "law 1 0;uses ", "law 1 0;uses 1 ", "refuses ", "refuses 0 "};
        for (String ahead : aheads) {
            for (String number : faulty) {
                said.due(ahead + number, Checks.read(ahead + number + " 1 1;"), faultAt(ahead.length()));
                said.due(ahead + number + ", the last", Checks.read(ahead + number), faultAt(ahead.length()));
            }
        }
        said.due("where no number can stand", Checks.read("pit 1 1 00;"), faultAt(8));
        said.due("where no number can stand, at first", Checks.read(" 100"), faultAt(1));
        said.due("a 0 alone", Checks.read("pit 0 0;"), 1);
        said.due("a number of 290 digits", Checks.read("pit " + "9".repeat(290)), faultAt(4));
    }

    private static void firstFault() {
        Said said = Said.by(4, "FAULT: the place of the first byte of the first TOKEN that can't stand there");
        said.due("at 0", Checks.read("pat 0 0;"), -10);
        said.due("behind blanks", Checks.read("     pat 0 0;"), -15);
        said.due("the first of two", Checks.read("pit 4 4;"), faultAt(4));
        said.due("ahead of a byte that begins none", Checks.read("pit 4 0; ?"), faultAt(4));
        said.due("behind a byte that begins none", Checks.read("pit ? 4;"), faultAt(4));
        said.due("a row of letters is one token", Checks.read("pit 0 0;pitpit"), faultAt(8));
        said.due("a row of digits is one token", Checks.read("pit 0 123;"), faultAt(6));
        said.due("at 299", Checks.read(" ".repeat(299) + ";"), faultAt(299));
        said.due("at 298, of two bytes", Checks.read(" ".repeat(298) + "no"), faultAt(298));
        Said beyond = Said.by(4, ", a NUMBER beyond what it may be, too);");
        beyond.due("X", Checks.read("board 2 3;wall 2 0;"), faultAt(15));
        beyond.due("Y", Checks.read("board 2 3;wall 0 3;"), faultAt(17));
    }

    private static void endsTooEarly() {
        Said said = Said.by(4, "the text's length, if it ends too early.");
        for (int i = 0; i < ITEMS.length; i++) {
            String ahead = AHEAD[i];
            for (int k = WORDS[i].length(); k < ITEMS[i].length(); k++) {
                String text = ahead + ITEMS[i].substring(0, k);
                said.due(text, Checks.read(text), faultAt(text.length()));
                said.due(text + " and blanks", Checks.read(text + "   "), faultAt(text.length() + 3));
                said.due(text + " of 300", Checks.read(text + " ".repeat(300 - text.length())), faultAt(300));
            }
            for (int k = 1; k < WORDS[i].length(); k++) {
                said.due("a word that is not all there is a fault of its own", Checks.read(ahead + WORDS[i].substring(0, k)),
                    faultAt(ahead.length()));
            }
        }
    }
}

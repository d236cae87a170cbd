/** Promises 1 to 7 and 27: a new object, the text, the board. */
final class BoardTest {
    private BoardTest() { }

    public static void main(String[] args) {
        newObject();
        typing();
        clearing();
        itemsRead();
        faults();
        faultsOfLaws();
        faultsOfMen();
        readAnew();
        cells();
        laws();
        men();
        counts();
        Checks.end();
    }

    private static void newObject() {
        OthersMan x = new OthersMan();
        Checks.due("1 WIDE", x.count(0), 4);
        Checks.due("1 HIGH", x.count(1), 4);
        Checks.due("1 LAWS", x.count(2), 0);
        Checks.due("1 PITS", x.count(3), 0);
        Checks.due("1 bytes", x.count(6), 0);
        int[][] due = {{0, 15, -9, 1, 0}, {15, 0, -9, 1, 0}};
        for (int m = 0; m < 2; m++) {
            for (int what = 0; what < 5; what++) Checks.due("1 man " + m + " " + what, x.man(m, what), due[m][what]);
        }
        int[] now = {0, 0, 0, -9};
        for (int what = 0; what < 4; what++) Checks.due("1 now " + what, x.now(what), now[what]);
        Checks.due("1 trace", x.trace(), 0);
        Checks.due("1 back", x.back(0), -2);
        Checks.due("1 lot", x.lot(5), 1);
    }

    private static void typing() {
        OthersMan x = new OthersMan();
        Checks.due("2 none", x.type(59, 0), -1);
        Checks.due("2 nine", x.type(59, 9), -1);
        Checks.due("2 below none", x.type(59, -1), -1);
        Checks.due("2 far beyond", x.type(59, Integer.MAX_VALUE), -1);
        Checks.due("2 one", x.type(0x7777777777777700L + 'p', 1), 1);
        Checks.due("2 two", x.type(0x77770000L + ('i' << 8) + 't', 2), 3);
        Checks.due("2 the rest", Checks.typed(x, " 3 2;"), 8);
        Checks.due("2 is read", x.board(), 1);
        Checks.due("2 the pit", x.cell(3, 2), 1);
        for (int i = 1; i <= 37; i++) Checks.due("2 more", x.type(0x2020202020202020L, 8), 8 * i);
        Checks.due("2 full", x.type(0x2020202020202020L, 5), -3);
        Checks.due("2 bad ahead of full", x.type(0, 9), -1);
        Checks.due("2 still", x.count(6), 296);
        Checks.due("2 just", x.type(0x20202020, 4), 300);
        Checks.due("2 full by one", x.type(32, 1), -3);
        Checks.due("2 blanks alone", x.board(), 0);
        Checks.due("2 empty", x.type(-1L, 8), 8);
        Checks.due("2 byte 255", x.board(), -10);
    }

    private static void clearing() {
        OthersMan x = new OthersMan();
        Checks.due("3 empty", x.clear(), 0);
        Checks.typed(x, "pit 1 1");
        Checks.due("3 seven", x.clear(), 7);
        Checks.due("3 gone", x.count(6), 0);
        Checks.due("3 again", x.clear(), 0);
        Checks.typed(x, "pit 2 1;");
        Checks.due("3 reads on", x.board(), 1);
        Checks.due("3 no pit of before", x.count(3), 1);
    }

    private static void itemsRead() {
        Checks.due("4 none", Checks.read(""), 0);
        Checks.due("4 blanks", Checks.read("   "), 0);
        Checks.due("4 close", Checks.read("board2 4;pit0 3;law1 0;"), 3);
        Checks.due("4 wide", Checks.read("  pit   0  3  ;  bell 1 1 ; "), 2);
        Checks.due("4 all", Checks.read("board 3 3;pit 0 1;bell 1 0;wall 2 0;law 2 7 0;man 0 1 1;home 1 0 1;uses 0 0;refuses 1 2;"), 9);
        Checks.due("4 other man there", Checks.read("man 0 3 3;"), 1);
        Checks.due("4 a pit where a man is", Checks.read("man 0 1 1;pit 1 1;"), 2);
        Checks.due("4 a wall where a man is", Checks.read("wall 0 0;"), 1);
        Checks.due("4 a bell is ground", Checks.read("bell 1 1;man 0 1 1;"), 2);
        Checks.due("4 pit no more", Checks.read("pit 1 1;bell 1 1;man 0 1 1;"), 3);
        Checks.due("4 home on a wall", Checks.read("wall 1 1;home 0 1 1;"), 2);
        Checks.due("4 home on a pit", Checks.read("pit 1 1;home 0 1 1;"), 2);
        Checks.due("4 eight directions", Checks.read("law 1 7 6 5 4 3 2 1 0;"), 1);
        Checks.due("4 smallest", Checks.read("board 2 2;"), 1);
        String pits = "pit 0 0;".repeat(37);
        Checks.due("4 three hundred bytes", Checks.read(pits + "    "), 37);
    }

    private static void faults() {
        Checks.due("4 board 1", Checks.read("board 1 2;"), -16);
        Checks.due("4 board 5", Checks.read("board 2 5;"), -18);
        Checks.due("4 board third", Checks.read("board 2 2 2;"), -20);
        Checks.due("4 board later", Checks.read("bell 1 1;board 2 2;"), -19);
        Checks.due("4 board twice", Checks.read("board 2 2;board 2 2;"), -20);
        Checks.due("4 beyond the told board", Checks.read("board 2 3;pit 2 0;"), -24);
        Checks.due("4 below the told board", Checks.read("board 2 3;pit 1 3;"), -26);
        Checks.due("4 end alone", Checks.read(";"), -10);
        Checks.due("4 number alone", Checks.read("  7"), -12);
        Checks.due("4 end twice", Checks.read("pit 0 0;;"), -18);
        Checks.due("4 word in an item", Checks.read("pit 0 bell;"), -16);
        Checks.due("4 word runs on", Checks.read("pitt 0 0;"), -10);
        Checks.due("4 words run together", Checks.read("pit 0 0;bellpit 0 0;"), -18);
        Checks.due("4 word too short", Checks.read("refuse 0 0;"), -10);
        Checks.due("4 a long word", Checks.read("boardboardboard"), -10);
        Checks.due("4 great letter", Checks.read("Pit 0 0;"), -10);
        Checks.due("4 great letter within", Checks.read("piT 0 0;"), -10);
        Checks.due("4 great letter behind", Checks.read("pit 0 0;X"), -18);
        Checks.due("4 foreign byte", Checks.read("pit 0,0;"), -15);
        Checks.due("4 tab", Checks.read("\tpit 0 0;"), -10);
        Checks.due("4 sign", Checks.read("pit -1 0;"), -14);
        Checks.due("4 zeros", Checks.read("pit 0 00;"), -16);
        Checks.due("4 zero ahead", Checks.read("pit 01 0;"), -14);
        Checks.due("4 a hundred", Checks.read("pit 100 0;"), -14);
        Checks.due("4 a very great one", Checks.read("pit 4294967296 0;"), -14);
        Checks.due("4 a row of zeros", Checks.read("law 1 0000000000000000000000000000;"), -16);
        Checks.due("4 two numbers in one", Checks.read("pit 00;"), -14);
        Checks.due("4 ten", Checks.read("pit 10;"), -14);
        Checks.due("4 byte 0", Checks.read("pit 1 1;\0"), -18);
        Checks.due("4 ends early", Checks.read("pit 1 1"), -17);
        Checks.due("4 ends earlier", Checks.read("pit 1  "), -17);
        Checks.due("4 ends earliest", Checks.read("pit"), -13);
        Checks.due("4 first of two", Checks.read("pit 9 9 ?"), -14);
    }

    private static void faultsOfLaws() {
        Checks.due("4 far 0", Checks.read("law 0 1;"), -14);
        Checks.due("4 far 3", Checks.read("law 3 1;"), -14);
        Checks.due("4 no direction", Checks.read("law 2;"), -15);
        Checks.due("4 no far", Checks.read("law;"), -13);
        Checks.due("4 direction 8", Checks.read("law 2 0 8;"), -18);
        Checks.due("4 direction again", Checks.read("law 1 3 1 3;"), -20);
        Checks.due("4 a ninth direction", Checks.read("law 1 0 1 2 3 4 5 6 7 0;"), -32);
        Checks.due("4 the far as a direction", Checks.read("law 1 1;"), 1);
        Checks.due("4 three laws", Checks.read("law 1 1;law 1 1;law 1 1;"), 3);
        Checks.due("4 four laws", Checks.read("law 1 1;law 1 1;law 1 1; law 1 1;"), -35);
        Checks.due("4 uses none", Checks.read("uses 0 0;law 1 0;"), -17);
        Checks.due("4 uses the second", Checks.read("law 1 0;uses 1 1;"), -25);
        Checks.due("4 uses of no man", Checks.read("law 1 0;uses 2 0;"), -23);
        Checks.due("4 uses three", Checks.read("law 1 0;uses 1 0 0;"), -27);
    }

    private static void faultsOfMen() {
        Checks.due("4 man on a pit", Checks.read("pit 3 1;man 1 3 1;"), -26);
        Checks.due("4 man on a wall", Checks.read("wall 3 1;man 1 3 1;"), -27);
        Checks.due("4 man 2", Checks.read("man 2 0 0;"), -14);
        Checks.due("4 man wide", Checks.read("man 1 4 0;"), -16);
        Checks.due("4 man high", Checks.read("man 1 0 4;"), -18);
        Checks.due("4 man short", Checks.read("man 1 0;"), -17);
        Checks.due("4 man long", Checks.read("man 1 0 0 0;"), -20);
        Checks.due("4 home 2", Checks.read("home 2 0 0;"), -15);
        Checks.due("4 home wide", Checks.read("home 1 4 0;"), -17);
        Checks.due("4 home high", Checks.read("home 1 0 4;"), -19);
        Checks.due("4 home short", Checks.read("home 1 0;"), -18);
        Checks.due("4 refuses 3", Checks.read("refuses 0 3;"), -20);
        Checks.due("4 refuses of no man", Checks.read("refuses 2 1;"), -18);
        Checks.due("4 refuses short", Checks.read("refuses 1;"), -19);
    }

    private static void readAnew() {
        OthersMan x = Checks.told("board 3 2;pit 1 0;law 1 0 2 6;man 0 2 0;home 1 0 1;refuses 0 0;");
        x.lot(77);
        x.rate(0, 0);
        Checks.due("4 a step", x.tell(6), 0);
        x.keep(1);
        Checks.typed(x, "wall 0 0;bell 9");
        Checks.due("4 fault", x.board(), -24);
        Checks.due("4 the text stays", x.count(6), 15);
        Checks.due("4 the board stays", x.count(0), 3);
        Checks.due("4 the pits stay", x.cell(1, 0), 1);
        Checks.due("4 no wall", x.count(5), 0);
        Checks.due("4 the walk stays", x.now(1), 1);
        Checks.due("4 the image stays", x.back(1), 1);
        Checks.due("4 homes stay", x.man(1, 1), 3);
        x.clear();
        Checks.due("4 the empty text tells all", x.board(), 0);
        Checks.due("4 wide as at first", x.count(0), 4);
        Checks.due("4 no laws", x.count(2), 0);
        Checks.due("4 no pits", x.count(3), 0);
        Checks.due("4 nothing of the faulty text", x.count(5), 0);
        Checks.due("4 the empty text again", x.board(), 0);
        Checks.due("4 nothing of the first text", x.count(2) + x.count(3) + x.man(0, 0), 0);
        Checks.due("4 man 0 as at first", x.man(0, 0), 0);
        Checks.due("4 home 1 as at first", x.man(1, 1), 0);
        Checks.due("4 refusals as at first", x.man(0, 3), 1);
        Checks.due("4 no steps", x.now(1), 0);
        Checks.due("4 A tells", x.now(0), 0);
        Checks.due("4 images are gone", x.back(1), -2);
        Checks.due("4 the lot stays", x.lot(77), 77);
        Checks.due("4 the trace goes on", x.trace(), 1);
    }

    private static void cells() {
        OthersMan x = Checks.told("board 3 2;pit 0 1;bell 1 1;wall 2 1;bell 2 0;pit 2 0;");
        int[] due = {0, 0, 1, 1, 2, 3};
        for (int c = 0; c < 6; c++) Checks.due("5 cell " + c, x.cell(c % 3, c / 3), due[c]);
        Checks.due("5 x", x.cell(3, 0), -1);
        Checks.due("5 y", x.cell(0, 2), -1);
        Checks.due("5 x below", x.cell(-1, 0), -1);
        Checks.due("5 y below", x.cell(0, -1), -1);
        Checks.due("5 far", x.cell(Integer.MAX_VALUE, Integer.MIN_VALUE), -1);
    }

    private static void laws() {
        OthersMan x = Checks.told("law 2 7 0;law 1 3;");
        Checks.due("6 far", x.law(0, 0), 2);
        Checks.due("6 directions", x.law(0, 1), 129);
        Checks.due("6 far 1", x.law(1, 0), 1);
        Checks.due("6 directions 1", x.law(1, 1), 8);
        Checks.due("6 no law 2", x.law(2, 0), -1);
        Checks.due("6 below", x.law(-1, 0), -1);
        Checks.due("6 what 2", x.law(0, 2), -1);
        Checks.due("6 what below", x.law(0, -1), -1);
        Checks.due("6 none at all", new OthersMan().law(0, 0), -1);
    }

    private static void men() {
        OthersMan x = Checks.told("board 3 3;law 1 0 2 4 6;law 2 2 3 4;wall 2 0;man 0 0 0;man 1 0 1;uses 0 1;refuses 0 2;");
        Checks.due("7 cell", x.man(1, 0), 3);
        Checks.due("7 home", x.man(0, 1), 8);
        Checks.due("7 law", x.man(0, 2), 1);
        Checks.due("7 law 0 each", x.man(1, 2), 0);
        Checks.due("7 refusals", x.man(0, 3), 2);
        Checks.due("7 over what lies between, no wall", x.man(0, 4), 8 | 16);
        Checks.due("7 not onto the other", x.man(1, 4), 4 | 16);
        Checks.due("7 no man", x.man(2, 0), -1);
        Checks.due("7 below", x.man(-1, 0), -1);
        Checks.due("7 what 5", x.man(0, 5), -1);
        Checks.due("7 what below", x.man(0, -1), -1);
        Checks.due("7 refused", x.refuse(2), 0);
        Checks.due("7 left", x.man(1, 3), 0);
        Checks.due("7 the barred one, too", x.man(1, 4), 4 | 16);
        OthersMan both = Checks.told("law 1 0 1 2 3 4 5 6 7;man 0 1 1;man 1 1 1;");
        Checks.due("7 where the other is", both.man(0, 4), 255);
    }

    private static void counts() {
        OthersMan x = Checks.told("board 4 3;law 1 0;law 1 1;law 1 2;pit 0 1;pit 0 1;pit 1 1;bell 2 1;wall 3 1;wall 3 2;wall 3 0;pit 3 0;");
        x.type(32, 3);
        int[] due = {4, 3, 3, 3, 1, 2, 3};
        for (int what = 0; what < 7; what++) Checks.due("27 count " + what, x.count(what), due[what]);
        Checks.due("27 beyond", x.count(7), -1);
        Checks.due("27 below", x.count(-1), -1);
    }
}

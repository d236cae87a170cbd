/** Promises 24, 25, 26 and 28: rates, images, the trace, at the edges that the document names. */
final class KindsEdges {
    private static final long[] ADDED = {1, 11, 101, 1011, 10101, 100001};

    private KindsEdges() { }

    static void run() {
        rates();
        ratesAtTheEdges();
        noSuchRate();
        trace();
        traceStays();
        kept();
        noSuchImage();
        broughtBack();
        noneKept();
        whatAnImageHas();
        nothingElse();
    }

    private static void rates() {
        Said said = Said.by(24, "KINDS of steps are over one another: 0 STEP; 1 TOLD, 2 RUNG, 5 PASSED (each under STEP); 3 REFUSED "
            + "(under TOLD); 4 FATAL (under RUNG). RATE of a MAN as if of a KIND");
        // Amid: man 0 on 5, home 4, six steps MAY be, one refusal; man 1 on 9, home 0, one, two; two steps are done.
        int[][] amid = {{5, 5 + 6, 5 + 1, 2 * (5 + 6), 5 + 1 - 4, 5 - 2}, {9, 9 + 1, 9 + 2, 2 * (9 + 1), 9 + 2, 9 - 2}};
        // Over: man 0 on 4, its home, three steps MAY be, two refusals; man 1 on 9, home 0, two, two; two steps are done.
        int[][] over = {{4, 4 + 3, 4 + 2, 2 * (4 + 3), 4 + 2 - 4, 4 - 2}, {9, 9 + 2, 9 + 2, 2 * (9 + 2), 9 + 2, 9 - 2}};
        for (int kind = 0; kind < 6; kind++) {
            for (int m = 0; m < 2; m++) {
                said.due("amid, kind " + kind + " of man " + m, Twins.amid().rate(kind, m), amid[m][kind]);
                said.due("over, kind " + kind + " of man " + m, Twins.over().rate(kind, m), over[m][kind]);
            }
        }
    }

    private static void ratesAtTheEdges() {
        Said said = Said.by(24, "STEP its cell (1). TOLD up, and how many steps MAY be (10). RUNG up, and REFUSALS left (100). REFUSED "
            + "twice up (1000). FATAL up less its HOME (10000). PASSED up less steps done (100000).");
        int[][] anew = {{0, 0, 1, 0, -14, 0}, {15, 15, 16, 30, 16, 15}};
        for (int kind = 0; kind < 6; kind++) {
            for (int m = 0; m < 2; m++) said.due("anew, " + kind + " of " + m, new OthersMan().rate(kind, m), anew[m][kind]);
        }
        OthersMan x = new OthersMan();
        for (int i = 0; i < 99; i++) x.pass();
        said.due("PASSED, 99 behind cell 0", x.rate(5, 0), -99);
        said.due("PASSED, 99 behind cell 15", x.rate(5, 1), 15 - 99);
        OthersMan all = Checks.told("law 1 0 1 2 3 4 5 6 7;man 0 1 1;man 1 1 1;refuses 0 0;refuses 1 2;home 0 0 0;home 1 3 3;");
        said.due("TOLD, all MAY be", all.rate(1, 0), 5 + 8);
        said.due("REFUSED, all MAY be", all.rate(3, 0), 2 * (5 + 8));
        said.due("RUNG, none left", all.rate(2, 0), 5);
        said.due("RUNG, two left", all.rate(2, 1), 7);
        said.due("FATAL, HOME 0", all.rate(4, 0), 5);
        said.due("FATAL, HOME 15", all.rate(4, 1), 7 - 15);
        OthersMan least = Checks.told("refuses 0 0;");
        said.due("FATAL, the least", least.rate(4, 0), -15);
    }

    private static void noSuchRate() {
        Said said = Said.by(24, "RATE. NO: BAD.");
        for (int m = 0; m < 2; m++) {
            int man = m;
            Twins.notLet(said, "kind, man " + m, (x, kind) -> x.rate(kind, man), -1000000, -1, 6, 7);
        }
        for (int kind = 0; kind < 6; kind++) {
            int asked = kind;
            Twins.notLet(said, "kind " + kind + ", man", (x, m) -> x.rate(asked, m), -1000000, -1, 2, 3);
        }
        Said.by(24, "What none is, where a number may be below 0.").due("the constant", OthersMan.NO, -1000000);
    }

    private static void trace() {
        Said said = Said.by(28, "(numbers in brackets are added to THE TRACE, 0 at first, as often as rate() asks that body: each once; "
            + "\"up\" is what the KIND above does):");
        said.due("at first", new OthersMan().trace(), 0);
        for (int kind = 0; kind < 6; kind++) {
            OthersMan x = new OthersMan();
            x.rate(kind, 0);
            said.due("kind " + kind, x.trace(), ADDED[kind]);
            x.rate(kind, 1);
            said.due("kind " + kind + " twice", x.trace(), 2 * ADDED[kind]);
        }
        OthersMan x = new OthersMan();
        for (int i = 0; i < 450; i++) x.rate(5, i & 1);
        said.due("PASSED 450 times", x.trace(), 450 * 100001L);
        said.due("asked again", x.trace(), 450 * 100001L);
    }

    private static void traceStays() {
        Said said = Said.by(28, "THE TRACE goes on, as behind back()");
        OthersMan x = Twins.amid();
        said.due("amid", x.trace(), 1011);
        x.rate(0, 0);
        said.due("back", x.back(1), 0);
        said.due("behind back()", x.trace(), 1012);
        x.rate(0, 0);
        said.due("back again", x.back(1), 0);
        said.due("behind back() again", x.trace(), 1013);
        x.keep(1);
        x.anew();
        said.due("behind keep() and anew()", x.trace(), 1013);
        x.clear();
        x.board();
        said.due("behind board()", x.trace(), 1013);
        Said own = Said.by(28, "THE TRACE.");
        Twins.changesNothing(own, "trace()", OthersMan::trace);
    }

    private static void kept() {
        Said said = Said.by(25, "An IMAGE is kept: steps done. BAD.");
        for (int image = 0; image < 2; image++) {
            said.due("anew", new OthersMan().keep(image), 0);
            said.due("amid", Twins.amid().keep(image), 2);
            said.due("over", Twins.over().keep(image), 2);
            said.due("behind 98", WalkEdges.shuttled("", 98).keep(image), 98);
            OthersMan x = new OthersMan();
            for (int i = 0; i < 99; i++) x.pass();
            said.due("behind 99", x.keep(image), 99);
            x.anew();
            said.due("over, brought back", x.back(image), 99);
            said.due("nobody won", x.now(2), 3);
            said.due("it is over", x.pass(), -2);
        }
        OthersMan same = Twins.over();
        same.keep(0);
        same.back(0);
        OthersMan twin = Twins.over();
        twin.keep(0);
        Twins.same(said, "kept, and at once brought back", same, twin);
    }

    private static void noSuchImage() {
        Said said = Said.by(25, "An IMAGE is kept: steps done. BAD.");
        Twins.notLet(said, "image", OthersMan::keep, -1, -1, 2, 3);
        Said back = Said.by(26, "BAD; STATE: none was kept.");
        Twins.notLet(back, "image", OthersMan::back, -1, -1, 2, 3);
    }

    private static void broughtBack() {
        Said said = Said.by(26, "All of that becomes as an IMAGE has it: steps done.");
        OthersMan x = Twins.amid();
        said.due("image 0", x.back(0), 2);
        said.due("not refused yet", x.now(3), -9);
        said.due("its REFUSALS", x.man(0, 3), 2);
        said.due("its lot", x.lot(5), -99);
        said.due("image 1", x.back(1), 0);
        said.due("A tells", x.now(0), 0);
        said.due("no steps", x.now(1), 0);
        said.due("its cell", x.man(1, 0), 10);
        said.due("its lot, too", x.lot(6), 12345);
        said.due("image 0 again", x.back(0), 2);
        said.due("its lot as it was kept", x.lot(7), -99);
        said.due("behind its own, kept anew", x.keep(1), 2);
        x.anew();
        said.due("image 1 now", x.back(1), 2);
        said.due("its lot now", x.lot(8), 7);
    }

    private static void noneKept() {
        Said said = Said.by(26, "BAD; STATE: none was kept.");
        Twins.refused(said, "image 0, anew", Twins::fresh, x -> x.back(0), -2);
        Twins.refused(said, "image 1, anew", Twins::fresh, x -> x.back(1), -2);
        Twins.refused(said, "image 1 where 0 was kept", Twins::over, x -> x.back(1), -2);
        OthersMan one = new OthersMan();
        one.keep(1);
        said.due("image 0 where 1 was kept", one.back(0), -2);
        said.due("image 1", one.back(1), 0);
        one.board();
        said.due("gone", one.back(1), -2);
        one.keep(0);
        said.due("kept again", one.back(0), 0);
        Checks.typed(one, "pit 9");
        said.due("a fault", one.board(), -14);
        said.due("drops none", one.back(0), 0);
    }

    private static void whatAnImageHas() {
        Said said = Said.by(25, "IMAGES 0, 1 keep the POSITION, what may not be told just now, steps done, whether it is over, THE LOT; "
            + "nothing else.");
        OthersMan x = Twins.amid();
        x.keep(1);
        x.lot(0);
        x.tell(6);
        said.due("over", x.now(2), 1);
        said.due("back", x.back(1), 2);
        int[] now = {1, 2, 0, 2};
        for (int what = 0; what < 4; what++) said.due("now " + what, x.now(what), now[what]);
        int[] men = {5, 4, 2, 1, 207, 9, 0, 0, 2, 4};
        for (int i = 0; i < 10; i++) said.due("man " + i, x.man(i / 5, i % 5), men[i]);
        said.due("the one that may not be told", x.tell(2), -1);
        said.due("another is not refused", x.refuse(0), -2);
        said.due("the lot", x.lot(1), 777);
        said.due("told", x.tell(0), 0);
        said.due("an image is not changed by that", x.back(1), 2);
        said.due("its cell", x.man(0, 0), 5);
        OthersMan over = Twins.over();
        over.keep(1);
        over.back(0);
        said.due("not over", over.now(2), 0);
        said.due("over again", over.back(1), 2);
        said.due("A has won", over.now(2), 1);
        said.due("who told that", over.now(0), 1);
        said.due("nothing is told", over.tell(0), -2);
    }

    private static void nothingElse() {
        Said said = Said.by(26, "THE LOT; nothing else.");
        OthersMan x = new OthersMan();
        x.keep(0);
        Checks.typed(x, "law 1 0");
        x.rate(0, 1);
        x.back(0);
        said.due("not the text", x.count(6), 7);
        said.due("not the trace", x.trace(), 1);
        x.keep(1);
        Checks.typed(x, " 6;");
        x.back(0);
        said.due("the text as it has become", x.board(), 1);
        said.due("the board as it is read", x.law(0, 1), 65);
    }
}

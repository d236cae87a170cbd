/** Promises 8 to 12: telling, refusing, passing, what is now and anew, at the edges that the document names. */
final class WalkEdges {
    private static final String ALL = "law 1 0 1 2 3 4 5 6 7;";
    /** Both men go down and up again; man 0 on the left, man 1 on the right, homes are never met. */
    static final String SHUTTLE = "board 2 4;law 1 0 4;man 1 1 0;home 1 0 3;";

    private WalkEdges() { }

    static void run() {
        whoTellsWhom();
        notADirection();
        toldWhenOver();
        mayNotBeTold();
        whatIsThen();
        lostAndHome();
        bells();
        refused();
        mayNotBeRefused();
        orderOfRefusing();
        toldAgainLater();
        passed();
        mayNotPass();
        whatIsNow();
        noSuchWhat();
        ninetyNine();
        theLastStep();
        anew();
    }

    static OthersMan shuttled(String more, int steps) {
        OthersMan x = Checks.told(SHUTTLE + more);
        for (int i = 0; i < steps; i++) Checks.due("a step of the shuttle, " + i, x.tell(i % 4 < 2 ? 4 : 0), 0);
        return x;
    }

    private static OthersMan passedOn(int passes) {
        OthersMan x = new OthersMan();
        for (int i = 0; i < passes; i++) Checks.due("pass " + i, x.pass(), i < 98 ? 0 : 3);
        return x;
    }

    static OthersMan nobodyWon() {
        return passedOn(99);
    }

    /** B has won by A's step. */
    static OthersMan bWon() {
        OthersMan x = Checks.told(ALL + "home 1 2 2;");
        Checks.due("home", x.tell(7), 2);
        return x;
    }

    private static void whoTellsWhom() {
        Said said = Said.by(8, "A POSITION: cells of both, REFUSALS left, who tells (A first). A tells a step for MAN 1, B for MAN 0.");
        Said steps = Said.by(8, "TOLD one: the man steps.");
        OthersMan x = Checks.told(ALL);
        said.due("A first", x.now(0), 0);
        said.due("A tells a step", x.tell(0), 0);
        said.due("for man 1", x.man(1, 0), 11);
        said.due("man 0 stays", x.man(0, 0), 0);
        said.due("B then", x.now(0), 1);
        steps.due("B tells a step", x.tell(2), 0);
        steps.due("for man 0", x.man(0, 0), 1);
        steps.due("man 1 stays", x.man(1, 0), 11);
        steps.due("A again", x.now(0), 0);
        steps.due("nobody's REFUSALS are less", x.man(0, 3) + 10 * x.man(1, 3), 11);
    }

    private static void notADirection() {
        Said said = Said.by(8, "BAD: not 0 .. 7;");
        Twins.notLet(said, "direction", OthersMan::tell, -1, -1, 8, 9, -8);
        said.due("0 is let", Checks.told(ALL).tell(0), 0);
        said.due("7 is let", Checks.told(ALL).tell(7), 0);
        Twins.refused(said, "8, nobody has won", WalkEdges::nobodyWon, x -> x.tell(8), -1);
    }

    private static void toldWhenOver() {
        Said said = Said.by(8, "STATE: it is over;");
        for (int d = 0; d < 8; d++) {
            int told = d;
            Twins.refused(said, "A has won, " + d, Twins::over, x -> x.tell(told), -2);
            Twins.refused(said, "B has won, " + d, WalkEdges::bWon, x -> x.tell(told), -2);
            Twins.refused(said, "nobody has, " + d, WalkEdges::nobodyWon, x -> x.tell(told), -2);
            Twins.refused(said, "nobody has, by steps, " + d, WalkEdges::ninetyNineSteps, x -> x.tell(told), -2);
        }
    }

    private static OthersMan ninetyNineSteps() {
        OthersMan x = shuttled("", 98);
        Checks.due("the 99th", x.tell(4), 3);
        return x;
    }

    private static void mayNotBeTold() {
        Said said = Said.by(8, "STATE: it is over; BAD: it may not be told.");
        for (int d = 0; d < 8; d++) {
            int told = d;
            Twins.refused(said, "no laws, " + d, Twins::fresh, x -> x.tell(told), -1);
        }
        Twins.refused(said, "the one that was refused just now", Twins::amid, x -> x.tell(2), -1);
        Twins.refused(said, "onto the other man", Twins::amid, x -> x.tell(4), -1);
        Twins.refused(said, "onto a WALL", Twins::amid, x -> x.tell(5), -1);
        Twins.refused(said, "off the board", () -> Checks.told(ALL), x -> x.tell(3), -1);
        Twins.refused(said, "not by its law", () -> Checks.told("law 1 0;law 1 6;uses 0 1;"), x -> x.tell(6), -1);
        OthersMan x = Twins.amid();
        int[] may = {0, 1, 3, 6, 7};
        for (int d : may) said.due("of those that are left, " + d, Twins.amid().tell(d), d == 6 ? 1 : 0);
        said.due("the barred one MAY be all the same", x.man(0, 4) >> 2 & 1, 1);
    }

    private static void whatIsThen() {
        Said said = Said.by(8, "A step is TOLD by whoever tells: what is then: 0 it goes on, 1 A won, 2 B won, 3 it is over, nobody won.");
        said.due("0", Checks.told(ALL).tell(0), 0);
        said.due("1, by a pit", Checks.told(ALL + "pit 3 2;").tell(0), 1);
        said.due("2, by a home", Checks.told(ALL + "home 1 3 2;").tell(0), 2);
        said.due("3, behind the 99th", shuttled("", 98).tell(4), 3);
        OthersMan pit = Checks.told(ALL + "pit 1 0;");
        pit.tell(0);
        said.due("2, by a pit", pit.tell(2), 2);
        OthersMan home = Checks.told(ALL + "home 0 1 0;");
        home.tell(0);
        said.due("1, by a home", home.tell(2), 1);
        said.due("its cell is that of the last step", home.man(0, 0), 1);
    }

    private static void lostAndHome() {
        Said said = Said.by(8, "Behind a step: a man on a PIT is LOST: its owner loses. A man on its HOME: its owner wins.");
        said.due("a plain cell", Checks.told("law 1 6;").tell(6), 0);
        said.due("the other man's HOME", Checks.told("law 1 6;home 0 2 3;").tell(6), 0);
        OthersMan off = Checks.told("law 1 2 6;pit 0 0;pit 3 3;");
        said.due("off a PIT, the other on one", off.tell(6), 0);
        said.due("off a PIT", off.tell(2), 0);
        said.due("onto it again", off.tell(2), 1);
        OthersMan fromHome = Checks.told("law 1 2 6;home 0 0 0;home 1 3 3;");
        said.due("off its HOME, the other on its own", fromHome.tell(6), 0);
        said.due("off its HOME", fromHome.tell(2), 0);
        said.due("home again", fromHome.tell(2), 2);
        Said ahead = Said.by(8, "(LOST ahead of HOME, where a HOME is a PIT.)");
        ahead.due("man 1", Checks.told("law 1 6;home 1 2 3;pit 2 3;").tell(6), 1);
        OthersMan man0 = Checks.told("law 1 2 6;home 0 1 0;pit 1 0;");
        ahead.due("A's step", man0.tell(6), 0);
        ahead.due("man 0", man0.tell(2), 2);
        ahead.due("a HOME that is a BELL", Checks.told("law 1 6;home 1 2 3;bell 2 3;").tell(6), 2);
        ahead.due("a HOME that was a PIT", Checks.told("law 1 6;home 1 2 3;pit 2 3;bell 2 3;").tell(6), 2);
    }

    private static void bells() {
        Said said = Said.by(8, "Else, on a BELL, the same one tells again; else the other one tells.");
        OthersMan x = Checks.told("law 1 2 6;bell 2 3;bell 1 0;bell 2 0;");
        said.due("A's step onto a BELL", x.tell(6), 0);
        said.due("A tells again", x.now(0), 0);
        said.due("off it, back", x.tell(2), 0);
        said.due("the other one tells", x.now(0), 1);
        said.due("B's step onto a BELL", x.tell(2), 0);
        said.due("B tells again", x.now(0), 1);
        said.due("onto a second", x.tell(2), 0);
        said.due("B tells again, too", x.now(0), 1);
        said.due("off it", x.tell(2), 0);
        said.due("A tells", x.now(0), 0);
        said.due("each is counted", x.now(1), 5);
        OthersMan still = Checks.told("law 1 2 6;bell 0 0;bell 3 3;");
        said.due("from a BELL", still.tell(6), 0);
        said.due("where the other man is on one", still.now(0), 1);
    }

    private static void refused() {
        Said said = Said.by(9, "It may REFUSE, if it has a REFUSAL left and there is another step that MAY be: then that one step may "
            + "not be told again just now, one REFUSAL is less, and the same one tells another one (which is not refused).");
        OthersMan x = Checks.told(ALL + "refuses 1 2;");
        said.due("one less", x.refuse(0), 1);
        said.due("of that man", x.man(1, 3), 1);
        said.due("not of the other", x.man(0, 3), 1);
        said.due("no step", x.now(1), 0);
        said.due("it stays", x.man(1, 0), 15);
        said.due("the same one tells", x.now(0), 0);
        said.due("it goes on", x.now(2), 0);
        said.due("not told again", x.tell(0), -1);
        said.due("not refused again", x.refuse(0), -1);
        said.due("another one is not refused", x.refuse(6), -2);
        said.due("another one is told", x.tell(6), 0);
        said.due("one step", x.now(1), 1);
        Said left = Said.by(9, "The step that is TOLD is REFUSED instead of done: REFUSALS left then.");
        for (int n = 0; n <= 2; n++) {
            left.due("of " + n, Checks.told(ALL + "refuses 1 " + n + ";").refuse(0), n == 0 ? -2 : n - 1);
        }
        OthersMan b = Checks.told(ALL + "refuses 0 2;refuses 1 0;");
        left.due("A's step", b.tell(0), 0);
        left.due("B's step is refused by A", b.refuse(2), 1);
        left.due("of man 0", b.man(0, 3), 1);
        left.due("what was refused", b.now(3), 2);
        left.due("the step of a pit refused", Checks.told("law 1 0 6;pit 3 2;").refuse(0), 0);
    }

    private static void mayNotBeRefused() {
        Said said = Said.by(9, "STATE: it may not be REFUSED (none left, no other step, one was REFUSED just now).");
        Twins.refused(said, "none left", () -> Checks.told(ALL + "refuses 1 0;"), x -> x.refuse(0), -2);
        Twins.refused(said, "none left of two", () -> {
            OthersMan x = Checks.told("law 1 2 6;bell 2 3;bell 1 3;man 1 2 3;refuses 1 2;");
            Checks.due("the first", x.refuse(6), 1);
            x.tell(2);
            x.tell(2);
            x.tell(6);
            Checks.due("the second", x.refuse(2), 0);
            Checks.due("onto the bell", x.tell(6), 0);
            return x;
        }, x -> x.refuse(2), -2);
        Twins.refused(said, "no other step by its law", () -> Checks.told("law 1 0;refuses 1 2;"), x -> x.refuse(0), -2);
        Twins.refused(said, "no other step on the board", () -> Checks.told("law 1 0 2 3 4;refuses 1 2;"), x -> x.refuse(0), -2);
        Twins.refused(said, "no other step for a WALL", () -> Checks.told("law 1 0 6;wall 2 3;"), x -> x.refuse(0), -2);
        Twins.refused(said, "no other step for the other man", () -> Checks.told("law 1 0 6;man 0 2 3;"), x -> x.refuse(0), -2);
        Twins.refused(said, "one was just now", Twins::amid, x -> x.refuse(3), -2);
        Twins.refused(said, "one was just now, the last that is left", () -> {
            OthersMan x = Checks.told("law 1 0 6;refuses 1 2;");
            Checks.due("refused", x.refuse(0), 1);
            return x;
        }, x -> x.refuse(6), -2);
        said.due("two steps are enough", Checks.told("law 1 0 6;").refuse(0), 0);
        said.due("the second of two", Checks.told("law 1 0 6;").refuse(6), 0);
    }

    private static void orderOfRefusing() {
        Said said = Said.by(9, "BAD, STATE, BAD as with tell();");
        Twins.notLet(said, "direction", OthersMan::refuse, -1, -1, 8, 9, -8);
        for (int d = 0; d < 8; d++) {
            int told = d;
            Twins.refused(said, "over, " + d, Twins::over, x -> x.refuse(told), -2);
            Twins.refused(said, "B has won, " + d, WalkEdges::bWon, x -> x.refuse(told), -2);
            Twins.refused(said, "nobody has won, " + d, WalkEdges::nobodyWon, x -> x.refuse(told), -2);
            Twins.refused(said, "it may not be told, no laws, " + d, Twins::fresh, x -> x.refuse(told), -1);
        }
        Twins.refused(said, "the one refused just now", Twins::amid, x -> x.refuse(2), -1);
        Twins.refused(said, "onto a WALL, one refused just now", Twins::amid, x -> x.refuse(5), -1);
        Twins.refused(said, "it may not be told, none left", () -> Checks.told(ALL + "refuses 1 0;"), x -> x.refuse(4), -1);
        Twins.refused(said, "not a direction, nobody has won", WalkEdges::nobodyWon, x -> x.refuse(-1), -1);
    }

    private static void toldAgainLater() {
        Said said = Said.by(9, "then that one step may not be told again just now");
        OthersMan x = Checks.told("law 1 2 6;bell 1 3;man 1 2 3;refuses 1 2;");
        said.due("refused", x.refuse(2), 1);
        said.due("which", x.now(3), 2);
        said.due("the other one, onto the bell", x.tell(6), 0);
        said.due("A still tells", x.now(0), 0);
        said.due("none now", x.now(3), -9);
        said.due("the same direction may be refused again", x.refuse(2), 0);
        said.due("which again", x.now(3), 2);
        said.due("another", x.tell(6), 0);
        said.due("B's", x.tell(2), 0);
        said.due("and told later", x.tell(2), 0);
        OthersMan other = Checks.told(ALL);
        said.due("A's step refused", other.refuse(0), 0);
        said.due("another told", other.tell(6), 0);
        said.due("none is barred for B", other.now(3), -9);
        said.due("B's refused, too", other.refuse(4), 0);
        said.due("another", other.tell(2), 0);
        said.due("told by A now", other.tell(0), 0);
    }

    private static void passed() {
        Said said = Said.by(10, "A pass: what is then, as with tell().");
        Said terms = Said.by(10, "If there is no step that MAY be, the teller passes.");
        OthersMan none = new OthersMan();
        said.due("no laws", none.pass(), 0);
        said.due("B tells", none.now(0), 1);
        said.due("B passes", none.pass(), 0);
        said.due("A tells", none.now(0), 0);
        said.due("two passes", none.now(1), 2);
        said.due("98 of them", passedOn(98).now(2), 0);
        said.due("the 99th", passedOn(98).pass(), 3);
        terms.due("walled in", Checks.told(ALL + "wall 3 2;wall 2 2;wall 2 3;").pass(), 0);
        terms.due("off the board", Checks.told("law 1 2 3 4;").pass(), 0);
        terms.due("for the other man", Checks.told("law 1 6;man 0 2 3;").pass(), 0);
        OthersMan bell = Checks.told("law 1 6;bell 3 3;wall 2 3;");
        terms.due("on a BELL", bell.pass(), 0);
        terms.due("the other one tells all the same", bell.now(0), 1);
        OthersMan home = Checks.told("law 1 6;home 1 3 3;wall 2 3;");
        terms.due("on its HOME it is no step", home.pass(), 0);
        OthersMan pit = Checks.told("law 1 6;pit 3 3;wall 2 3;");
        terms.due("on a PIT it is no step", pit.pass(), 0);
    }

    private static void mayNotPass() {
        Said said = Said.by(10, "STATE: it is over, or a step MAY be.");
        Twins.refused(said, "A has won", Twins::over, OthersMan::pass, -2);
        Twins.refused(said, "B has won, by the one step there was", () -> {
            OthersMan x = Checks.told("law 1 6;home 1 2 3;");
            x.tell(6);
            return x;
        }, OthersMan::pass, -2);
        Twins.refused(said, "nobody has won", WalkEdges::nobodyWon, OthersMan::pass, -2);
        Twins.refused(said, "many steps MAY be, one is barred", Twins::amid, OthersMan::pass, -2);
        Twins.refused(said, "one step MAY be", () -> Checks.told("law 1 6;"), OthersMan::pass, -2);
        Twins.refused(said, "one onto a PIT", () -> Checks.told("law 1 6;pit 2 3;"), OthersMan::pass, -2);
        Twins.refused(said, "one is left behind a refusal", () -> {
            OthersMan x = Checks.told("law 1 0 6;");
            x.refuse(6);
            return x;
        }, OthersMan::pass, -2);
        OthersMan other = Checks.told("law 1 6;law 1 2;uses 1 1;");
        said.due("none for man 1", other.pass(), 0);
        said.due("none for man 0 either", other.pass(), 0);
        OthersMan mine = Checks.told("law 1 6;law 1 2;uses 0 1;uses 1 1;");
        said.due("A passes", mine.pass(), 0);
        said.due("a step of man 0 MAY be", mine.pass(), -2);
    }

    private static void whatIsNow() {
        Said said = Said.by(11, "0 who tells (0 A, 1 B; if a step ended it: who told that; behind the 99th as ever), 1 steps and "
            + "passes done, 2 what it is (0 .. 3 as with tell()), 3 the direction that may not be told just now (NONE). BAD.");
        int[] fresh = {0, 0, 0, -9};
        int[] amid = {1, 2, 0, 2};
        int[] over = {1, 2, 1, -9};
        int[] won = {0, 1, 2, -9};
        int[] nobody = {1, 99, 3, -9};
        for (int what = 0; what < 4; what++) {
            said.due("anew, " + what, new OthersMan().now(what), fresh[what]);
            said.due("amid, " + what, Twins.amid().now(what), amid[what]);
            said.due("A won by B's step, " + what, Twins.over().now(what), over[what]);
            said.due("B won by A's step, " + what, bWon().now(what), won[what]);
            said.due("99 passes, " + what, passedOn(99).now(what), nobody[what]);
            said.due("99 steps, " + what, ninetyNineSteps().now(what), nobody[what]);
            int asked = what;
            Twins.changesNothing(said, "what " + what, x -> x.now(asked));
        }
        OthersMan pit = Checks.told(ALL + "pit 3 2;");
        pit.tell(0);
        said.due("A won by A's step", pit.now(0), 0);
        OthersMan pit0 = Checks.told(ALL + "pit 1 0;");
        pit0.tell(0);
        pit0.tell(2);
        said.due("B won by B's step", pit0.now(0), 1);
        for (int d = 0; d < 8; d++) {
            OthersMan x = Checks.told("board 3 3;" + ALL + "man 1 1 1;man 0 1 1;");
            said.due("refused", x.refuse(d), 0);
            said.due("the direction", x.now(3), d);
        }
    }

    private static void noSuchWhat() {
        Said said = Said.by(11, "3 the direction that may not be told just now (NONE). BAD.");
        Twins.notLet(said, "what", OthersMan::now, -1, -1, 4, 5, -9);
    }

    private static void ninetyNine() {
        Said said = Said.by(8, "A WALK is over then, or behind 99 steps and passes.");
        OthersMan x = shuttled("", 97);
        said.due("the 98th", x.tell(4), 0);
        said.due("it goes on", x.now(2), 0);
        said.due("98", x.now(1), 98);
        said.due("a refusal is none of them", shuttledThenRefused().now(1), 98);
        said.due("behind a refusal the 99th", shuttledThenRefused().tell(4), 3);
        said.due("the 99th", x.tell(4), 3);
        said.due("99", x.now(1), 99);
        // Man 0 has no step, so each second one is a pass.
        OthersMan mixed = Checks.told("board 2 4;law 1 0 4;law 1 6;uses 0 1;man 1 1 1;");
        for (int i = 0; i < 98; i++) said.due("step or pass " + i, i % 2 == 1 ? mixed.pass() : mixed.tell(i % 4 == 0 ? 4 : 0), 0);
        said.due("49 of each, and one", mixed.tell(4), 3);
        said.due("over", mixed.pass(), -2);
    }

    private static OthersMan shuttledThenRefused() {
        OthersMan x = shuttled("", 98);
        Checks.due("the 99th refused", x.refuse(0), 0);
        return x;
    }

    private static void theLastStep() {
        Said said = Said.by(11, "behind the 99th as ever");
        OthersMan plain = shuttled("", 98);
        said.due("A tells the 99th", plain.now(0), 0);
        said.due("nobody won", plain.tell(4), 3);
        said.due("the other one", plain.now(0), 1);
        OthersMan bell = shuttled("bell 1 2;", 98);
        said.due("onto a BELL", bell.tell(4), 3);
        said.due("the same one", bell.now(0), 0);
        OthersMan pit = shuttled("pit 1 2;", 98);
        said.due("onto a PIT", pit.tell(4), 1);
        said.due("who told that", pit.now(0), 0);
        said.due("99 steps", pit.now(1), 99);
        OthersMan home = shuttled("home 1 1 2;", 98);
        said.due("HOME", home.tell(4), 2);
        said.due("who told that, too", home.now(0), 0);
    }

    private static void anew() {
        Said said = Said.by(12, "The POSITION is as at first: steps and passes there were.");
        said.due("none", new OthersMan().anew(), 0);
        said.due("98", passedOn(98).anew(), 98);
        said.due("99", passedOn(99).anew(), 99);
        said.due("99 steps", ninetyNineSteps().anew(), 99);
        OthersMan x = Twins.amid();
        said.due("amid", x.anew(), 2);
        said.due("none since", x.anew(), 0);
        int[] men = {1, 4, 2, 2, 124, 10, 0, 0, 2, 69};
        for (int i = 0; i < 10; i++) said.due("man " + i, x.man(i / 5, i % 5), men[i]);
        int[] now = {0, 0, 0, -9};
        for (int what = 0; what < 4; what++) said.due("now " + what, x.now(what), now[what]);
        said.due("the text stays", x.count(6), 5);
        said.due("the trace stays", x.trace(), 1011);
        said.due("the lot stays", x.lot(777), 777);
        said.due("image 1 stays", x.back(1), 0);
        said.due("image 0 stays", x.back(0), 2);
        OthersMan over = Twins.over();
        said.due("over", over.anew(), 2);
        said.due("goes on", over.now(2), 0);
        said.due("can be told again", over.tell(6), 0);
        OthersMan refused = Checks.told(ALL);
        refused.refuse(0);
        said.due("behind a refusal alone", refused.anew(), 0);
        said.due("nothing is barred", refused.now(3), -9);
        said.due("its REFUSAL is back", refused.man(1, 3), 1);
        said.due("it may be told", refused.tell(0), 0);
        OthersMan twin = Checks.told(Twins.RICH);
        OthersMan walked = Checks.told(Twins.RICH);
        walked.tell(6);
        walked.refuse(4);
        walked.tell(5);
        walked.anew();
        Twins.same(said, "all is as at first", walked, twin);
    }
}

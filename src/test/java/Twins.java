import java.util.ArrayList;
import java.util.List;

/**
 * Two objects made alike, of which one is asked something: then all that later calls can tell of
 * both is compared. One look takes some 300 calls, so what is made has taken fewer than 200.
 */
final class Twins {
    /** Makes an object, each time in the same way. */
    interface Maker {
        OthersMan make();
    }

    interface Call {
        long ask(OthersMan x);
    }

    interface CallOf {
        long ask(OthersMan x, int v);
    }

    /** All kinds of cells, three laws, men that use different ones, two refusals each. */
    static final String RICH = "board 4 3;law 1 0 2 4 6;law 2 1 2 3 5 6 7;law 1 0 1 2 3 4 5 6 7;pit 3 0;bell 1 1;wall 0 2;"
        + "man 0 1 0;man 1 2 2;home 0 0 1;home 1 0 0;uses 0 2;uses 1 0;refuses 0 2;refuses 1 2;";

    private Twins() { }

    /** Two steps are done (the second one onto a bell), a third is refused; images, a lot, a trace, a text begun. */
    static OthersMan amid() {
        OthersMan x = Checks.told(RICH);
        x.lot(12345);
        x.rate(3, 0);
        x.keep(1);
        Checks.due("amid: A's step", x.tell(6), 0);
        Checks.due("amid: onto the bell", x.tell(4), 0);
        x.lot(-99);
        x.keep(0);
        Checks.due("amid: refused", x.refuse(2), 1);
        x.lot(777);
        Checks.typed(x, "pit 1");
        return x;
    }

    /** A has won by B's step; one image. */
    static OthersMan over() {
        OthersMan x = Checks.told(RICH);
        Checks.due("over: A's step", x.tell(6), 0);
        x.keep(0);
        x.rate(4, 1);
        Checks.due("over: home", x.tell(5), 1);
        Checks.typed(x, "wall 1 1");
        return x;
    }

    /** Nothing has been asked. */
    static OthersMan fresh() {
        return new OthersMan();
    }

    /** A refused call has its answer, and leaves all as it is. */
    static void refused(Said said, String what, Maker maker, Call call, long want) {
        OthersMan x = maker.make();
        said.due(what, call.ask(x), want);
        same(said, what + " changes nothing", x, maker.make());
    }

    static void refusedAnywhere(Said said, String what, Call call, long want) {
        refused(said, what + ", anew", Twins::fresh, call, want);
        refused(said, what + ", amid", Twins::amid, call, want);
        refused(said, what + ", over", Twins::over, call, want);
    }

    /** Numbers that are not let, and the least and the greatest int. */
    static void notLet(Said said, String what, CallOf call, long want, int... numbers) {
        for (int v : numbers) refusedAnywhere(said, what + " " + v, x -> call.ask(x, v), want);
        refusedAnywhere(said, what + " least", x -> call.ask(x, Integer.MIN_VALUE), want);
        refusedAnywhere(said, what + " greatest", x -> call.ask(x, Integer.MAX_VALUE), want);
    }

    /** What asks, and is let, changes nothing either. */
    static void changesNothing(Said said, String what, Call call) {
        Maker[] makers = {Twins::fresh, Twins::amid, Twins::over};
        for (Maker maker : makers) {
            OthersMan x = maker.make();
            call.ask(x);
            same(said, what + " changes nothing", x, maker.make());
        }
    }

    static void same(Said said, String what, OthersMan x, OthersMan twin) {
        List<String> seen = look(x);
        List<String> due = look(twin);
        String differs = "";
        for (int i = 0; i < due.size() && differs.isEmpty(); i++) {
            if (!seen.get(i).equals(due.get(i))) differs = " (" + seen.get(i) + ", due is " + due.get(i) + ")";
        }
        said.due(what + differs, differs.isEmpty() ? 0 : 1, 0);
    }

    /** All that can be told of an object, the images, the lot and the text, too; it is used up by that. */
    private static List<String> look(OthersMan x) {
        List<String> all = new ArrayList<>();
        see(x, all, "now");
        for (int image = 0; image < 2; image++) {
            all.add("lot " + x.lot(image));
            all.add("back " + x.back(image));
            see(x, all, "image " + image);
        }
        all.add("anew " + x.anew());
        see(x, all, "at first");
        all.add("rounds " + x.rounds(3));
        all.add("lot " + x.lot(5));
        all.add("board " + x.board());
        see(x, all, "read");
        x.type(0x20313bL, 3);
        all.add("board of what is typed on " + x.board());
        see(x, all, "read on");
        all.add("clear " + x.clear());
        return all;
    }

    private static void see(OthersMan x, List<String> all, String when) {
        for (int what = 0; what < 7; what++) all.add(when + " count " + what + " " + x.count(what));
        int wide = x.count(0);
        int cells = wide * x.count(1);
        for (int c = 0; c < cells; c++) all.add(when + " cell " + c + " " + x.cell(c % wide, c / wide));
        for (int i = 0; i < 6; i++) all.add(when + " law " + i + " " + x.law(i / 2, i % 2));
        for (int i = 0; i < 10; i++) all.add(when + " man " + i + " " + x.man(i / 5, i % 5));
        for (int what = 0; what < 4; what++) all.add(when + " now " + what + " " + x.now(what));
        all.add(when + " trace " + x.trace());
        all.add(when + " value " + x.value(3) + " best " + x.best(2));
    }
}

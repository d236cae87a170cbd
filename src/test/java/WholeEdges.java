import java.lang.reflect.Member;
import java.lang.reflect.Modifier;
import java.nio.file.Files;
import java.nio.file.Path;
import java.util.ArrayList;
import java.util.List;

/** What the document says ahead of its terms: the face, and that an object is used for 512 calls. */
final class WholeEdges {
    private static final int CALLS = 512;

    /** The calls of the face, in the order of promises 2 to 28. */
    private static final String[] FACE = {"int type(long v, int n)", "int clear()", "int board()", "int cell(int x, int y)",
        "int law(int l, int what)", "int man(int m, int what)", "int tell(int direction)", "int refuse(int direction)", "int pass()",
        "int now(int what)", "int anew()", "int safe(int m, int n)", "int safest(int m)", "int value(int n)", "int best(int n)",
        "int refuses(int direction, int n)", "int worth(int m, int n)", "int bag(int i, int j, int n)", "int fairest(int n)",
        "int even(int n)", "int rounds(int k)", "int lot(int v)", "int rate(int kind, int m)", "int keep(int image)",
        "int back(int image)", "int count(int what)", "long trace()"};

    private static final String[] HEADINGS = {"the board", "walks", "reckoned", "kinds, images"};
    private static final String[] BEHIND_HEADINGS = {"`type`, `clear`, `board`, `cell`, `law`, `man`",
        "`tell`, `refuse`, `pass`, `now`, `anew`",
        "`safe`, `safest`, `value`, `best`, `refuses`, `worth`, `bag`, `fairest`, `even`, `rounds`, `lot`",
        "`rate`, `keep`, `back`, `count`, `trace`"};

    private WholeEdges() { }

    static void run() {
        String source = source();
        face(source);
        headings(source);
        nothingElseIsSeen();
        constants();
        oneRun();
        askedToTheLastCall();
        drawnToTheLastCall();
        toldToTheLastCall();
        typedToTheLastCall();
        readToTheLastCall();
        keptBehindEachPass();
    }

    private static String source() {
        try {
            return Files.readString(Path.of("src/main/java/OthersMan.java"));
        } catch (java.io.IOException e) {
            Checks.due("the source can be read: " + e, 0, 1);
            return "";
        }
    }

    private static void face(String source) {
        Said.by(1, "public final class OthersMan {").due("it stands in the source",
            source.contains("public final class OthersMan {") ? 1 : 0, 1);
        Said.by(1, "public OthersMan();").due("it stands in the source", source.contains("    public OthersMan() {") ? 1 : 0, 1);
        Said.by(1, "`OthersMan()`:");
        for (int i = 0; i < FACE.length; i++) {
            Said said = Said.by(i + 2, "public " + FACE[i] + ";");
            said.due("it stands in the source", source.contains("    public " + FACE[i] + " {") ? 1 : 0, 1);
            Said.by(i + 2, "`" + FACE[i] + "`:");
        }
    }

    /** Each heading stands ahead of its calls, and ahead of no others. */
    private static void headings(String source) {
        for (int h = 0; h < HEADINGS.length; h++) {
            Said said = Said.by(1, "Ahead of the calls " + BEHIND_HEADINGS[h] + " the interface says: ---- " + HEADINGS[h] + ".");
            int begins = source.indexOf("// ---- " + HEADINGS[h] + "\n");
            int ends = source.indexOf("// ----", begins + 1);
            said.due("it stands in the source", begins > 0 && ends > begins ? 1 : 0, 1);
            int calls = 0;
            for (String call : FACE) {
                String name = call.substring(call.indexOf(' ') + 1, call.indexOf('('));
                int at = source.indexOf("    public " + call);
                boolean behind = at > begins && at < ends;
                if (behind) calls++;
                said.due(name, behind ? 1 : 0, BEHIND_HEADINGS[h].contains("`" + name + "`") ? 1 : 0);
            }
            said.due("calls", calls, BEHIND_HEADINGS[h].split(",").length);
        }
    }

    private static void nothingElseIsSeen() {
        Said said = Said.by(1, "public final class OthersMan {");
        List<Member> members = new ArrayList<>();
        members.addAll(List.of(OthersMan.class.getDeclaredMethods()));
        members.addAll(List.of(OthersMan.class.getDeclaredFields()));
        members.addAll(List.of(OthersMan.class.getDeclaredConstructors()));
        int seen = 0;
        for (Member m : members) {
            if (Modifier.isPublic(m.getModifiers())) seen++;
            else said.due(m.getName() + " is private", Modifier.isPrivate(m.getModifiers()) ? 1 : 0, 1);
        }
        said.due("public members", seen, FACE.length + 5 + 1);
        for (Class<?> inside : OthersMan.class.getDeclaredClasses()) {
            int modifiers = inside.getModifiers();
            said.due(inside.getName() + " is private and static", Modifier.isPrivate(modifiers) && Modifier.isStatic(modifiers) ? 1 : 0, 1);
        }
    }

    private static void constants() {
        Said said = Said.by(1, "public static final int BAD = -1, STATE = -2, FULL = -3, NONE = -9;");
        said.due("BAD", OthersMan.BAD, -1);
        said.due("STATE", OthersMan.STATE, -2);
        said.due("FULL", OthersMan.FULL, -3);
        said.due("NONE", OthersMan.NONE, -9);
        Said.by(1, "public static final int NO = -1000000;").due("NO", OthersMan.NO, -1000000);
        Said.by(1, "The constants: `NO = -1000000`: What none is, where a number may be below 0.").due("NO", OthersMan.NO, -1000000);
    }

    /** The example of README.md, too. */
    private static void oneRun() {
        Said said = Said.by(1, "Each moves the other's man: a board of pits, bells and walls, two men with laws of steps and homes, told "
            + "by a text; each of two tells where the other's man shall step, among the steps that man's own law lets; a man may refuse "
            + "once; walks replayed and judged; cells that are safe for so many steps whatever is told; who comes home, reckoned back "
            + "from the end, exactly; when to refuse, what that is worth; laws drawn from a bag, which against which; boards that are "
            + "even; estates as homes, rounds by draws; steps by kinds; images.");
        OthersMan x = new OthersMan();
        said.due("board 3 ", x.type(0x626f617264203320L, 8), 8);
        said.due("3;law 1 ", x.type(0x333b6c6177203120L, 8), 16);
        said.due("0 6;pit ", x.type(0x3020363b70697420L, 8), 24);
        said.due("2 1;", x.type(0x3220313b, 4), 28);
        said.due("read", x.board(), 3);
        said.due("man 1 may go up and left", x.man(1, 4), 1 | 64);
        said.due("up it is lost, but B refuses that", x.value(1), 0);
        said.due("B does best to refuse", x.refuses(0, 1), 1);
        said.due("nobody is lost by one refusal more", x.worth(1, 1), 0);
        said.due("refused", x.refuse(0), 0);
        said.due("not told again", x.tell(0), OthersMan.BAD);
        said.due("left instead", x.tell(6), 0);
        said.due("man 1 is on cell 7", x.man(1, 0), 7);
        said.due("man 0 has no step from its corner", x.pass(), 0);
        said.due("A tells", x.now(0), 0);
        said.due("from all cells but the pit and the one below it", x.safe(1, 9), 0b011011111);
        said.due("steps and passes there were", x.anew(), 2);
    }

    /** A question, asked until all calls have been made. */
    private static void askedToTheLastCall() {
        asked("cell()", x -> x.cell(1, 1));
        asked("law()", x -> x.law(1, 1));
        asked("man()", x -> x.man(1, 4));
        asked("now()", x -> x.now(3));
        asked("safe()", x -> x.safe(0, 9));
        asked("safest()", x -> x.safest(1));
        asked("value()", x -> x.value(5));
        asked("best()", x -> x.best(5));
        asked("refuses()", x -> x.refuses(0, 5));
        asked("worth()", x -> x.worth(0, 4));
        asked("bag()", x -> x.bag(1, 2, 4));
        asked("fairest()", x -> x.fairest(3));
        asked("even()", x -> x.even(4));
        asked("count()", x -> x.count(6));
        asked("trace()", OthersMan::trace);
        asked("rate()", x -> x.rate(3, 0));
        asked("a refused call", x -> x.tell(8));
    }

    private static Said said() {
        return Said.by(1, "An object is used for at most 512 calls after it has been made; what later calls answer is free.");
    }

    private static int callsToTell(String text) {
        return (text.length() + 7) / 8 + 1;
    }

    private static void asked(String call, Twins.Call question) {
        OthersMan x = Checks.told(Twins.RICH);
        long first = question.ask(x);
        long last = first;
        for (int calls = callsToTell(Twins.RICH) + 1; calls < CALLS; calls++) last = question.ask(x);
        said().due("the last call, " + call, last, first);
        // What is asked last has to be what an object that has been asked less answers.
        said().due("by another object, " + call, question.ask(Checks.told(Twins.RICH)), first);
    }

    private static void drawnToTheLastCall() {
        OthersMan one = Checks.told(Twins.RICH);
        OthersMan many = Checks.told(Twins.RICH);
        int most = CALLS - callsToTell(Twins.RICH) - 1;
        long sum = 0;
        for (int i = 0; i < most; i++) sum += one.rounds(1);
        long due = 0;
        for (int left = most; left > 0; left -= 99) due += many.rounds(Math.min(left, 99));
        said().due("rounds one by one, and 99 at once", sum, due);
        said().due("the lot behind them", one.lot(0), many.lot(0));
    }

    /** Five walks of 99 steps. */
    private static void toldToTheLastCall() {
        OthersMan x = Checks.told(WalkEdges.SHUTTLE);
        for (int walk = 0; walk < 5; walk++) {
            for (int i = 0; i < 99; i++) said().due("walk " + walk + ", step " + i, x.tell(i % 4 < 2 ? 4 : 0), i == 98 ? 3 : 0);
            said().due("walk " + walk, x.anew(), 99);
        }
    }

    private static void typedToTheLastCall() {
        OthersMan x = new OthersMan();
        for (int call = 1; call < CALLS; call++) said().due("byte " + call, x.type(' ', 1), call <= 300 ? call : OthersMan.FULL);
        said().due("the last call", x.clear(), 300);
    }

    /** Nothing is left of the text before. */
    private static void readToTheLastCall() {
        OthersMan x = new OthersMan();
        for (int i = 0; i < 170; i++) {
            said().due("text " + i, x.type(Checks.packed(i % 2 == 0 ? "law 1 2;" : "pit 3 2;"), 8), 8);
            said().due("read, " + i, x.board(), 1);
            said().due("laws, " + i, x.count(2), 1 - i % 2);
        }
    }

    private static void keptBehindEachPass() {
        OthersMan x = new OthersMan();
        for (int i = 0; i < 99; i++) {
            said().due("pass " + i, x.pass(), i == 98 ? 3 : 0);
            said().due("kept, " + i, x.keep(i & 1), i + 1);
            said().due("the other image, " + i, i == 0 ? 0 : x.back(1 - (i & 1)), i);
            said().due("that image, " + i, x.back(i & 1), i + 1);
        }
    }
}

/** Promises 8 to 12: telling, refusing, passing, what is now, anew. */
final class WalkTest {
    private static final String ALL_WAYS = "law 1 0 1 2 3 4 5 6 7;";

    private WalkTest() { }

    public static void main(String[] args) {
        telling();
        winning();
        ringing();
        refusing();
        passing();
        now();
        ninetyNine();
        anew();
        Checks.end();
    }

    private static void telling() {
        OthersMan x = Checks.told("law 1 0 2 4 6;law 2 2 4;uses 0 1;");
        Checks.due("8 not a direction", x.tell(8), -1);
        Checks.due("8 below", x.tell(-1), -1);
        Checks.due("8 off the board", x.tell(2), -1);
        Checks.due("8 not by the law", x.tell(7), -1);
        Checks.due("8 man 1 up", x.tell(0), 0);
        Checks.due("8 it went", x.man(1, 0), 11);
        Checks.due("8 the other did not", x.man(0, 0), 0);
        Checks.due("8 B tells man 0", x.tell(4), 0);
        Checks.due("8 two far", x.man(0, 0), 8);
        Checks.due("8 left", x.tell(6), 0);
        Checks.due("8 onto the other", x.tell(2), -1);
        Checks.due("8 off, two far", x.tell(4), -1);
        Checks.due("8 nothing changed", x.now(1), 3);
    }

    private static void winning() {
        OthersMan home = Checks.told("law 1 2 6;home 1 2 3;");
        Checks.due("8 man 1 comes home: B wins", home.tell(6), 2);
        Checks.due("8 over", home.tell(6), -2);
        Checks.due("8 not 0 .. 7, over", home.tell(9), -1);
        OthersMan own = Checks.told("law 1 2 6;home 0 1 0;");
        Checks.due("8 on", own.tell(6), 0);
        Checks.due("8 man 0 comes home: A wins", own.tell(2), 1);
        OthersMan pit = Checks.told("law 1 2 6;pit 2 3;");
        Checks.due("8 man 1 is lost: A wins", pit.tell(6), 1);
        OthersMan pit0 = Checks.told("law 1 2 6;pit 1 0;");
        Checks.due("8 on, too", pit0.tell(6), 0);
        Checks.due("8 man 0 is lost: B wins", pit0.tell(2), 2);
        OthersMan both = Checks.told("law 1 2 6;home 1 2 3;pit 2 3;");
        Checks.due("8 lost ahead of home", both.tell(6), 1);
        OthersMan others = Checks.told("law 1 2 6;home 0 2 3;");
        Checks.due("8 the other's home is no home", others.tell(6), 0);
        OthersMan bellHome = Checks.told("law 1 2 6;home 1 2 3;bell 2 3;");
        Checks.due("8 home ahead of bell", bellHome.tell(6), 2);
        OthersMan onPit = Checks.told("law 1 2 6;pit 0 0;home 0 0 0;");
        Checks.due("8 only the man that stepped is judged", onPit.tell(6), 0);
        Checks.due("8 off the pit", onPit.tell(2), 0);
    }

    private static void ringing() {
        OthersMan x = Checks.told("law 1 2 6;bell 2 3;bell 1 3;");
        Checks.due("8 onto a bell", x.tell(6), 0);
        Checks.due("8 A again", x.now(0), 0);
        Checks.due("8 onto the next", x.tell(6), 0);
        Checks.due("8 A once more", x.now(0), 0);
        Checks.due("8 off", x.tell(6), 0);
        Checks.due("8 B now", x.now(0), 1);
        OthersMan start = Checks.told("law 1 2 6;bell 0 0;");
        Checks.due("8 the other man's bell is silent", start.tell(6), 0);
        Checks.due("8 B then", start.now(0), 1);
    }

    private static void refusing() {
        OthersMan x = Checks.told(ALL_WAYS + "refuses 0 2;refuses 1 0;");
        Checks.due("9 none left", x.refuse(0), -2);
        Checks.due("9 not a direction", x.refuse(8), -1);
        Checks.due("9 below", x.refuse(-1), -1);
        Checks.due("9 it may not be told", x.refuse(4), -1);
        Checks.due("9 a step", x.tell(0), 0);
        Checks.due("9 B's step refused", x.refuse(2), 1);
        Checks.due("9 B still", x.now(0), 1);
        Checks.due("9 no step", x.now(1), 1);
        Checks.due("9 barred", x.now(3), 2);
        Checks.due("9 the same", x.refuse(2), -1);
        Checks.due("9 the barred can't be told", x.tell(2), -1);
        Checks.due("9 one was just now", x.refuse(3), -2);
        Checks.due("9 no pass", x.pass(), -2);
        Checks.due("9 another", x.tell(3), 0);
        Checks.due("9 nothing barred", x.now(3), -9);
        Checks.due("9 A", x.tell(0), 0);
        Checks.due("9 the second", x.refuse(3), 0);
        Checks.due("9 told", x.tell(2), 0);
        Checks.due("9 A tells", x.now(0), 0);
        OthersMan one = Checks.told("law 1 0;refuses 1 2;");
        Checks.due("9 no other step", one.refuse(0), -2);
        OthersMan over = Checks.told("law 1 0 6;pit 3 2;");
        Checks.due("9 over", over.tell(0), 1);
        Checks.due("9 refuse when over", over.refuse(6), -2);
        Checks.due("9 bad ahead of over", over.refuse(8), -1);
        Checks.due("9 over ahead of what may be", over.refuse(4), -2);
    }

    private static void passing() {
        OthersMan x = Checks.told("law 1 0 2;law 1 6;uses 1 1;man 1 1 3;bell 0 3;home 1 3 3;");
        Checks.due("10 a step may be", x.pass(), -2);
        Checks.due("10 onto a bell", x.tell(6), 0);
        Checks.due("10 A again", x.now(0), 0);
        Checks.due("10 A passes", x.pass(), 0);
        Checks.due("10 B tells, bell or not", x.now(0), 1);
        Checks.due("10 counted", x.now(1), 2);
        Checks.due("10 B can't pass", x.pass(), -2);
        Checks.due("10 B tells", x.tell(2), 0);
        Checks.due("10 A passes again", x.pass(), 0);
        OthersMan over = Checks.told("law 1 6;home 1 2 3;");
        Checks.due("10 won", over.tell(6), 2);
        Checks.due("10 over", over.pass(), -2);
        OthersMan none = new OthersMan();
        Checks.due("10 no laws", none.pass(), 0);
    }

    private static void now() {
        OthersMan x = Checks.told("law 1 0 2 4 6;home 0 1 0;refuses 1 2;");
        Checks.due("11 beyond", x.now(4), -1);
        Checks.due("11 below", x.now(-1), -1);
        Checks.due("11 on", x.tell(0), 0);
        Checks.due("11 B", x.now(0), 1);
        Checks.due("11 A wins", x.tell(2), 1);
        Checks.due("11 B told that", x.now(0), 1);
        Checks.due("11 two steps", x.now(1), 2);
        Checks.due("11 A won", x.now(2), 1);
        Checks.due("11 none barred", x.now(3), -9);
    }

    private static void ninetyNine() {
        OthersMan x = new OthersMan();
        for (int i = 1; i < 99; i++) Checks.due("10 pass " + i, x.pass(), 0);
        Checks.due("11 who", x.now(0), 0);
        Checks.due("10 the 99th", x.pass(), 3);
        Checks.due("11 as ever", x.now(0), 1);
        Checks.due("11 steps", x.now(1), 99);
        Checks.due("11 nobody", x.now(2), 3);
        Checks.due("10 over", x.pass(), -2);
        Checks.due("8 over", x.tell(0), -2);
        Checks.due("15 over, nobody", x.value(5), 0);
        Checks.due("12 anew", x.anew(), 99);
        OthersMan bell = to98("board 2 4;law 1 0 4;bell 1 2;home 1 0 3;");
        Checks.due("8 the 99th onto a bell", bell.tell(4), 3);
        Checks.due("11 the same one", bell.now(0), 0);
        Checks.due("16 over", bell.best(1), -9);
        OthersMan pit = to98("board 2 4;law 1 0 4;pit 1 2;home 1 0 3;");
        Checks.due("8 the 99th wins", pit.tell(4), 1);
        Checks.due("11 who told that", pit.now(0), 0);
        Checks.due("11 99 steps", pit.now(1), 99);
    }

    /** Behind 98 steps down and up again, both men are on row 1, and A tells man 1. */
    private static OthersMan to98(String text) {
        OthersMan x = Checks.told(text + "man 1 1 0;");
        for (int i = 0; i < 98; i++) Checks.due("8 step " + i, x.tell(i % 4 < 2 ? 4 : 0), 0);
        return x;
    }

    private static void anew() {
        OthersMan x = Checks.told("law 1 0 2 4 6;bell 3 2;refuses 1 2;");
        Checks.due("12 nothing done", x.anew(), 0);
        x.refuse(6);
        x.tell(0);
        x.tell(6);
        x.tell(2);
        x.refuse(2);
        Checks.due("12 barred", x.now(3), 2);
        x.lot(9);
        x.keep(0);
        Checks.due("12 three", x.anew(), 3);
        Checks.due("12 cell", x.man(1, 0), 15);
        Checks.due("12 cell 0", x.man(0, 0), 0);
        Checks.due("12 refusals", x.man(1, 3), 2);
        Checks.due("12 refusals 0", x.man(0, 3), 1);
        Checks.due("12 A", x.now(0), 0);
        Checks.due("12 none barred", x.now(3), -9);
        Checks.due("12 no steps", x.now(1), 0);
        Checks.due("12 the lot stays", x.lot(9), 9);
        Checks.due("12 images stay", x.back(0), 3);
        OthersMan won = Checks.told("law 1 6;home 1 2 3;");
        won.tell(6);
        Checks.due("12 one", won.anew(), 1);
        Checks.due("12 goes on", won.now(2), 0);
    }
}

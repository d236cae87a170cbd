/** Promises 24 to 26 and 28: rates of kinds, images, the trace. */
final class KindsTest {
    private KindsTest() { }

    public static void main(String[] args) {
        rates();
        traces();
        images();
        Checks.end();
    }

    private static OthersMan walked() {
        OthersMan x = Checks.told("board 4 3;law 1 0 2 4 6;law 2 2 6;uses 1 1;home 0 2 2;home 1 1 1;man 0 1 1;man 1 3 1;"
            + "refuses 0 2;refuses 1 0;bell 2 1;");
        Checks.due("24 no step to the other", x.man(1, 4), 0);
        Checks.due("24 a pass", x.pass(), 0);
        Checks.due("24 a step onto a bell", x.tell(2), 0);
        Checks.due("24 and off", x.tell(0), 0);
        return x;
    }

    private static void rates() {
        OthersMan x = walked();
        // Man 0 is on 2 (two, of its directions, may be), man 1 on 7 (one may be); three steps are done.
        int[][] due = {{2, 5, 4, 10, -6, -1}, {7, 8, 7, 16, 2, 4}};
        for (int kind = 0; kind < 6; kind++) {
            for (int m = 0; m < 2; m++) Checks.due("24 kind " + kind + " man " + m, x.rate(kind, m), due[m][kind]);
        }
        Checks.due("24 no kind", x.rate(6, 0), -1000000);
        Checks.due("24 below", x.rate(-1, 0), -1000000);
        Checks.due("24 no man", x.rate(0, 2), -1000000);
        Checks.due("24 man below", x.rate(0, -1), -1000000);
        Checks.due("28 all of them, twice", x.trace(), 2 * (1 + 11 + 101 + 1011 + 10101 + 100001));
    }

    private static void traces() {
        long[] added = {1, 11, 101, 1011, 10101, 100001};
        OthersMan x = walked();
        long due = 0;
        Checks.due("28 at first", x.trace(), 0);
        x.keep(0);
        for (int kind = 0; kind < 6; kind++) {
            x.rate(kind, kind & 1);
            due += added[kind];
            Checks.due("28 behind kind " + kind, x.trace(), due);
        }
        x.back(0);
        Checks.due("28 goes on behind back()", x.trace(), due);
        x.anew();
        Checks.due("28 and behind anew()", x.trace(), due);
        x.rate(9, 0);
        x.rate(0, 9);
        Checks.due("28 not by what is refused", x.trace(), due);
        Checks.due("28 text", x.board(), 0);
        Checks.due("28 and behind board()", x.trace(), due);
    }

    private static void images() {
        OthersMan x = Checks.told("law 1 0 2 4 6;refuses 1 2;home 1 2 2;");
        Checks.due("26 none kept", x.back(0), -2);
        Checks.due("26 no image", x.back(2), -1);
        Checks.due("26 below", x.back(-1), -1);
        Checks.due("25 no image", x.keep(2), -1);
        Checks.due("25 below", x.keep(-1), -1);
        x.lot(42);
        Checks.due("25 refused", x.refuse(0), 1);
        Checks.due("25 at none", x.keep(0), 0);
        Checks.due("26 the other is not kept", x.back(1), -2);
        x.lot(43);
        Checks.due("25 told", x.tell(6), 0);
        Checks.due("25 told by B", x.tell(2), 0);
        Checks.due("25 refused again", x.refuse(6), 0);
        Checks.due("25 B wins", x.tell(0), 2);
        Checks.due("25 over", x.keep(1), 3);
        Checks.due("26 back", x.back(0), 0);
        int[] now = {0, 0, 0, 0};
        for (int what = 0; what < 4; what++) Checks.due("26 now " + what, x.now(what), now[what]);
        Checks.due("26 cell", x.man(1, 0), 15);
        Checks.due("26 cell 0", x.man(0, 0), 0);
        Checks.due("26 left", x.man(1, 3), 1);
        Checks.due("26 lot", x.lot(44), 42);
        Checks.due("26 one is barred still", x.tell(0), -1);
        Checks.due("26 the walk goes on", x.tell(6), 0);
        Checks.due("26 to the other", x.back(1), 3);
        Checks.due("26 over again", x.now(2), 2);
        Checks.due("26 who told that", x.now(0), 0);
        Checks.due("26 its lot", x.lot(1), 43);
        Checks.due("26 an image is not used up", x.back(0), 0);
        Checks.due("26 nor changed by the walk", x.man(1, 0), 15);
        Checks.due("25 kept again", x.tell(6), 0);
        Checks.due("25 over the old", x.keep(0), 1);
        x.anew();
        Checks.due("26 the new", x.back(0), 1);
        Checks.due("26 its cell", x.man(1, 0), 14);
        Checks.typed(x, "pit 9");
        Checks.due("26 a fault", x.board(), -14);
        Checks.due("26 images stay", x.back(1), 3);
        x.clear();
        Checks.due("26 anew", x.board(), 0);
        Checks.due("26 gone", x.back(0), -2);
        Checks.due("26 gone, too", x.back(1), -2);
    }
}

/** Promises 13 to 23: what is reckoned, and the lot. */
final class ReckonTest {
    private static final String ROW = "board 4 2;law 1 2 6;";

    private ReckonTest() { }

    public static void main(String[] args) {
        safe();
        safest();
        value();
        valueOfRefusals();
        valueNearTheEnd();
        best();
        refuses();
        worth();
        bag();
        fairest();
        even();
        rounds();
        lot();
        askingChangesNothing();
        Checks.end();
    }

    private static void safe() {
        OthersMan x = Checks.told(ROW + "pit 3 0;wall 1 1;law 1 0 4;uses 1 1;");
        Checks.due("13 no pits, no walls", x.safe(0, 0), 0b11010111);
        Checks.due("13 one step", x.safe(0, 1), 0b11010011);
        Checks.due("13 two", x.safe(0, 2), 0b11010001);
        Checks.due("13 three", x.safe(0, 3), 0b11010000);
        Checks.due("13 nine: behind the wall, and without a step", x.safe(0, 9), 0b11010000);
        Checks.due("13 up and down", x.safe(1, 9), 0b01010111);
        Checks.due("13 no man", x.safe(2, 0), -1);
        Checks.due("13 man below", x.safe(-1, 0), -1);
        Checks.due("13 n below", x.safe(0, -1), -1);
        Checks.due("13 n 10", x.safe(0, 10), -1);
        Checks.due("13 no laws", new OthersMan().safe(1, 9), 65535);
        OthersMan alone = Checks.told("board 2 2;law 1 2;pit 1 0;man 1 0 0;man 0 1 1;");
        Checks.due("13 alone on the board", alone.safe(0, 1), 0b1100);
        OthersMan past = Checks.told("board 3 2;law 1 2;home 0 1 0;pit 2 0;bell 1 1;");
        Checks.due("13 homes and bells don't end it", past.safe(0, 2), 0b111000);
    }

    private static void safest() {
        OthersMan x = Checks.told(ROW + "pit 3 0;man 0 0 0;man 1 2 0;");
        Checks.due("14 two", x.safest(0), 2);
        Checks.due("14 none", x.safest(1), 0);
        Checks.due("14 no man", x.safest(2), -1);
        Checks.due("14 below", x.safest(-1), -1);
        Checks.due("14 a step", x.tell(6), 0);
        Checks.due("14 now", x.safest(1), 1);
        OthersMan pit = Checks.told("law 1 2;pit 0 0;wall 3 3;");
        Checks.due("14 on a pit", pit.safest(0), -9);
        Checks.due("14 on a wall", pit.safest(1), -9);
        Checks.due("14 without laws", new OthersMan().safest(0), 9);
    }

    private static void value() {
        OthersMan x = Checks.told(ROW + "pit 3 0;man 0 0 0;man 1 1 1;home 0 0 1;home 1 0 1;refuses 0 0;refuses 1 0;");
        Checks.due("15 none ahead", x.value(0), 0);
        Checks.due("15 one", x.value(1), 0);
        Checks.due("15 five", x.value(5), 0);
        Checks.due("15 below", x.value(-1), -1000000);
        Checks.due("15 six", x.value(6), -1000000);
        Checks.due("15 A tells", x.tell(2), 0);
        Checks.due("15 B needs three steps", x.value(4), 0);
        Checks.due("15 with A's between", x.value(5), -1);
        Checks.due("15 B tells", x.tell(2), 0);
        Checks.due("15 three", x.value(3), 0);
        Checks.due("15 four", x.value(4), -1);
        OthersMan won = Checks.told("law 1 2 6;home 1 2 3;");
        Checks.due("15 not won", won.tell(6), 2);
        Checks.due("15 B won", won.value(0), -1);
        Checks.due("15 B won, five", won.value(5), -1);
        OthersMan lost = Checks.told("law 1 2 6;pit 2 3;");
        Checks.due("15 lost", lost.tell(6), 1);
        Checks.due("15 A won", lost.value(0), 1);
        OthersMan pass = Checks.told("board 3 2;law 1 0;law 1 2 6;uses 0 1;pit 1 0;man 1 2 0;home 1 2 1;refuses 0 0;");
        Checks.due("15 a pass counts", pass.value(1), 0);
        Checks.due("15 then B tells man 0 into the pit", pass.value(2), -1);
        OthersMan rung = Checks.told("board 4 2;law 1 6;bell 2 0;pit 1 0;man 1 3 0;man 0 0 1;refuses 1 0;");
        Checks.due("15 by a bell twice", rung.value(2), 1);
        Checks.due("15 not by one", rung.value(1), 0);
    }

    private static void valueOfRefusals() {
        String twoWays = "board 3 2;law 1 2 6;pit 0 1;man 1 1 1;man 0 0 0;home 1 0 0;";
        Checks.due("15 nothing refused", Checks.told(twoWays + "refuses 1 0;").value(1), 1);
        Checks.due("15 refused", Checks.told(twoWays).value(1), 0);
        String twoPits = twoWays + "pit 2 1;";
        Checks.due("15 refusing does not help", Checks.told(twoPits + "refuses 1 2;").value(1), 1);
        OthersMan barred = Checks.told(twoWays);
        Checks.due("15 the harmless one refused", barred.refuse(2), 0);
        Checks.due("15 what is told now can't be", barred.value(1), 1);
        OthersMan better = Checks.told(twoWays);
        Checks.due("15 the pit refused", better.refuse(6), 0);
        Checks.due("15 barred at the root", better.value(1), 0);
        OthersMan second = Checks.told(twoPits + "law 1 0;uses 0 1;refuses 1 2;");
        Checks.due("15 refused once, told the other", second.refuse(2), 1);
        Checks.due("15 not refused twice", second.value(1), 1);
        String threeWays = "board 3 2;law 1 0 2 6;pit 0 1;man 1 1 1;man 0 0 0;refuses 1 2;";
        Checks.due("15 one pit of three ways", Checks.told(threeWays).value(1), 0);
        Checks.due("15 two pits, not both refused", Checks.told(threeWays + "pit 2 1;").value(1), 1);
        OthersMan justNow = Checks.told(threeWays);
        Checks.due("15 refused just now", justNow.refuse(2), 1);
        Checks.due("15 the pit can't be", justNow.value(1), 1);
    }

    /** Behind the 99th step a walk is over, so nobody wins beyond it. */
    private static void valueNearTheEnd() {
        OthersMan x = Checks.told("board 2 4;law 1 0 4;pit 1 3;man 1 1 0;home 1 0 0;refuses 0 0;refuses 1 0;");
        for (int i = 0; i < 96; i++) Checks.due("15 step " + i, x.tell(i % 4 < 2 ? 4 : 0), 0);
        Checks.due("15 in five", x.value(5), 0);
        Checks.due("15 anew", x.anew(), 96);
        Checks.due("15 in five, from the start", x.value(5), 1);
        for (int i = 0; i < 98; i++) Checks.due("15 step " + i, x.tell(i % 4 < 2 ? 4 : 0), 0);
        Checks.due("16 the first of equals", x.best(5), 0);
        Checks.due("15 one is left", x.value(5), 0);
    }

    private static void best() {
        OthersMan x = Checks.told("board 3 2;law 1 2 6;pit 2 1;man 1 1 1;home 1 0 0;refuses 1 0;home 0 2 0;");
        Checks.due("16 into the pit", x.best(1), 2);
        Checks.due("16 none ahead", x.best(0), -1);
        Checks.due("16 six", x.best(6), -1);
        Checks.due("16 below", x.best(-1), -1);
        Checks.due("16 the other", x.tell(6), 0);
        Checks.due("16 B: the first", x.best(1), 2);
        String homes = "board 3 2;law 1 2 6;man 1 1 1;home 1 2 1;home 0 2 0;man 0 1 0;";
        OthersMan home = Checks.told(homes + "refuses 0 0;refuses 1 0;");
        Checks.due("16 A: not home", home.best(1), 6);
        home.tell(6);
        Checks.due("16 B: not home", home.best(1), 6);
        OthersMan refusing = Checks.told(homes);
        Checks.due("16 the other one would be refused", refusing.best(1), 2);
        Checks.due("16 refused", refusing.refuse(2), 0);
        Checks.due("16 just the other is left", refusing.best(1), 6);
        Checks.due("16 told", refusing.tell(6), 0);
        Checks.due("16 refused, too", refusing.refuse(6), 0);
        Checks.due("16 just home is left", refusing.best(1), 2);
        OthersMan won = Checks.told("law 1 6;home 1 2 3;");
        won.tell(6);
        Checks.due("16 over", won.best(3), -9);
        Checks.due("16 bad ahead", won.best(0), -1);
        Checks.due("16 a pass", new OthersMan().best(5), -9);
        OthersMan barred = Checks.told("law 1 0 6;");
        Checks.due("16 the first", barred.best(2), 0);
        Checks.due("16 the first refused", barred.refuse(0), 0);
        Checks.due("16 not the barred one, as good as it is", barred.best(2), 6);
        // Both pits would be refused; what is told instead decides.
        OthersMan first = Checks.told("law 1 0 2 6;man 1 1 1;pit 1 0;pit 2 1;home 1 0 3;");
        Checks.due("16 first of several", first.best(1), 0);
    }

    private static void refuses() {
        OthersMan x = Checks.told("board 3 2;law 1 2 6;pit 0 1;man 1 1 1;man 0 0 0;home 1 0 0;home 0 2 1;refuses 1 2;");
        Checks.due("17 the pit", x.refuses(6, 1), 1);
        Checks.due("17 not the other", x.refuses(2, 1), 0);
        Checks.due("17 not a direction", x.refuses(8, 1), -1);
        Checks.due("17 below", x.refuses(-1, 1), -1);
        Checks.due("17 n none", x.refuses(6, 0), -1);
        Checks.due("17 n six", x.refuses(6, 6), -1);
        Checks.due("17 it may not be told", x.refuses(0, 1), -1);
        Checks.due("17 refused", x.refuse(2), 1);
        Checks.due("17 the barred one", x.refuses(2, 1), -1);
        Checks.due("17 it may not be refused", x.refuses(6, 1), 0);
        Checks.due("17 told", x.tell(6), 1);
        Checks.due("17 over", x.refuses(6, 1), -2);
        Checks.due("17 over ahead of what may be", x.refuses(0, 1), -2);
        Checks.due("17 numbers ahead of over", x.refuses(6, 0), -1);
        Checks.due("17 numbers ahead of over, too", x.refuses(8, 1), -1);
        OthersMan both = Checks.told("board 3 2;law 1 2 6;pit 0 1;pit 2 1;man 1 1 1;");
        Checks.due("17 not better", both.refuses(2, 1), 0);
        OthersMan owner = Checks.told("board 3 2;law 1 2 6;pit 0 0;man 0 1 0;home 0 1 1;");
        owner.tell(6);
        Checks.due("17 A refuses for man 0", owner.refuses(6, 1), 1);
        Checks.due("17 A does not refuse that", owner.refuses(2, 1), 0);
        OthersMan none = Checks.told("law 1 0 6;pit 3 2;refuses 1 0;");
        Checks.due("17 none left", none.refuses(0, 2), 0);
        OthersMan one = Checks.told("law 1 0;pit 3 2;");
        Checks.due("17 no other step", one.refuses(0, 2), 0);
    }

    private static void worth() {
        OthersMan x = Checks.told("board 3 2;law 1 2 6;pit 0 1;man 1 1 1;man 0 0 0;home 1 0 0;home 0 2 1;refuses 1 0;");
        Checks.due("18 B's", x.worth(1, 1), -1);
        Checks.due("18 A's", x.worth(0, 1), 0);
        Checks.due("18 none ahead", x.worth(1, 0), 0);
        Checks.due("18 n five", x.worth(1, 5), -1000000);
        Checks.due("18 n below", x.worth(1, -1), -1000000);
        Checks.due("18 no man", x.worth(2, 1), -1000000);
        Checks.due("18 man below", x.worth(-1, 1), -1000000);
        OthersMan over = Checks.told("law 1 6;home 1 2 3;refuses 1 0;");
        over.tell(6);
        Checks.due("18 over", over.worth(1, 4), 0);
        OthersMan most = Checks.told("board 3 2;law 1 2 6;pit 0 1;pit 2 1;man 1 1 1;man 0 0 0;refuses 1 2;");
        Checks.due("18 two at most", most.worth(1, 4), 0);
        // By two bells A tells man 1 three times: up is a pit each time, and a third refusal would save him.
        OthersMan third = Checks.told("board 4 2;law 1 0 6;man 1 3 1;pit 3 0;pit 2 0;pit 1 0;bell 2 1;bell 1 1;refuses 1 2;");
        Checks.due("18 two are too few", third.value(3), 1);
        Checks.due("18 a third is none", third.worth(1, 3), 0);
        OthersMan a = Checks.told("board 3 2;law 1 2 6;pit 0 0;man 0 1 0;home 0 1 1;home 1 0 0;refuses 0 0;");
        a.tell(6);
        Checks.due("18 A's is more", a.worth(0, 1), 1);
        Checks.due("18 it can't be refused now", a.worth(1, 1), 0);
    }

    private static OthersMan twoLaws() {
        return Checks.told("board 3 2;law 1 2 6;law 1 0 4;pit 0 1;man 1 1 1;man 0 0 0;home 1 1 0;home 0 2 1;"
            + "refuses 0 0;refuses 1 0;");
    }

    private static void bag() {
        OthersMan x = twoLaws();
        Checks.due("19 as it is", x.bag(0, 0, 1), 1);
        Checks.due("19 B's other law brings it home", x.bag(0, 1, 1), -1);
        Checks.due("19 A's other law", x.bag(1, 0, 1), 1);
        Checks.due("19 none ahead", x.bag(1, 1, 0), 0);
        Checks.due("19 no such law", x.bag(2, 0, 1), -1000000);
        Checks.due("19 none for B", x.bag(0, 2, 1), -1000000);
        Checks.due("19 below", x.bag(-1, 0, 1), -1000000);
        Checks.due("19 below, B", x.bag(0, -1, 1), -1000000);
        Checks.due("19 n five", x.bag(0, 0, 5), -1000000);
        Checks.due("19 n below", x.bag(0, 0, -1), -1000000);
        Checks.due("19 no laws", new OthersMan().bag(0, 0, 0), -1000000);
        Checks.due("19 laws stay", x.man(1, 2), 0);
        Checks.due("19 value stays", x.value(1), 1);
        OthersMan asked = Checks.told("law 1 2;law 1 4;law 1 0;uses 1 2;pit 0 1;");
        Checks.due("19 nobody as it is", asked.value(2), 0);
        Checks.due("19 reckoned anew by other laws", asked.bag(1, 2, 2), -1);
        Checks.due("19 and anew as it is", asked.value(2), 0);
        OthersMan barred = Checks.told("board 3 2;law 1 2 6;law 1 0 6;pit 0 1;man 1 1 1;man 0 2 0;refuses 1 2;home 1 2 0;");
        Checks.due("19 refused", barred.refuse(6), 1);
        Checks.due("19 what may not be told, too", barred.bag(0, 1, 1), 0);
        OthersMan won = Checks.told("law 1 6;law 1 0;home 1 2 3;");
        won.tell(6);
        Checks.due("19 over", won.bag(1, 1, 3), -1);
    }

    private static void fairest() {
        Checks.due("20 none ahead: the first", twoLaws().fairest(0), 0);
        Checks.due("20 none is fair", twoLaws().fairest(1), -9);
        Checks.due("20 n below", twoLaws().fairest(-1), -1);
        Checks.due("20 n four", twoLaws().fairest(4), -1);
        Checks.due("20 no laws", new OthersMan().fairest(3), -9);
        OthersMan later = Checks.told("board 3 2;law 1 2 6;law 1 1;law 1 7;pit 0 1;man 1 1 1;man 0 2 0;home 1 2 1;uses 1 2;"
            + "refuses 0 0;refuses 1 0;home 0 2 1;");
        Checks.due("20 A wins by law 0 of man 1", later.bag(0, 0, 1), 1);
        Checks.due("20 nobody by law 1", later.bag(0, 1, 1), 0);
        Checks.due("20 10 i and j", later.fairest(1), 1);
        OthersMan more = Checks.told("law 1 0 4;law 1 2;home 0 1 1;man 0 0 1;");
        Checks.due("20 A's step", more.tell(0), 0);
        Checks.due("20 nobody", more.bag(0, 0, 1), 0);
        Checks.due("20 A wins by its other law", more.bag(1, 0, 1), 1);
        Checks.due("20 A gains by that", more.fairest(1), -9);
        OthersMan less = Checks.told("law 1 0;law 1 6;home 1 2 3;");
        Checks.due("20 nobody, too", less.bag(0, 0, 1), 0);
        Checks.due("20 B wins by its other law", less.bag(0, 1, 1), -1);
        Checks.due("20 B gains by that", less.fairest(1), -9);
        OthersMan won = Checks.told("law 1 6;home 1 2 3;");
        won.tell(6);
        Checks.due("20 over", won.fairest(3), -9);
    }

    private static void even() {
        OthersMan x = twoLaws();
        Checks.due("21 none ahead", x.even(0), 1);
        Checks.due("21 not", x.even(1), 0);
        Checks.due("21 n below", x.even(-1), -1);
        Checks.due("21 n five", x.even(5), -1);
        OthersMan turned = Checks.told("board 3 2;law 1 2 6;law 1 0 4;uses 0 1;pit 0 0;man 0 0 1;man 1 1 1;home 1 2 0;"
            + "home 0 2 1;refuses 0 0;refuses 1 0;");
        Checks.due("21 as it is", turned.value(1), 0);
        Checks.due("21 changed, man 1 could fall", turned.even(1), 0);
        OthersMan homes = Checks.told("board 3 2;law 1 2 6;law 1 0;uses 0 1;man 0 0 1;man 1 2 1;home 1 2 0;home 0 0 0;"
            + "refuses 0 0;refuses 1 0;");
        Checks.due("21 homes change, too", homes.even(1), 0);
        Checks.due("21 nothing changed", homes.man(0, 1), 0);
        OthersMan refusals = Checks.told("board 3 2;law 1 2 6;pit 0 0;pit 0 1;man 0 1 0;man 1 1 1;refuses 0 0;refuses 1 1;");
        Checks.due("21 refused", refusals.value(1), 0);
        Checks.due("21 refusals change, too", refusals.even(1), 0);
        OthersMan same = Checks.told("board 3 2;law 1 2 6;pit 0 0;pit 0 1;man 0 1 0;man 1 1 1;");
        Checks.due("21 both may refuse", same.even(1), 1);
        Checks.due("21 empty board", new OthersMan().even(4), 1);
        OthersMan won = Checks.told("law 1 6;home 1 2 3;");
        won.tell(6);
        Checks.due("21 over", won.even(2), 0);
    }

    private static void rounds() {
        // A tells man 1 one step: left is home, up and the one between are pits.
        OthersMan x = Checks.told("law 1 0 6 7;pit 3 2;pit 2 2;home 1 2 3;");
        int lot = 1;
        int more = 0;
        for (int i = 0; i < 50; i++) {
            lot = lot * 1103515245 + 12345;
            more += (lot >>> 16) % 3 == 1 ? -1 : 1;
        }
        Checks.due("22 fifty", x.rounds(50), more);
        Checks.due("22 the lot went on", x.lot(1), lot);
        Checks.due("22 none", x.rounds(0), -1000000);
        Checks.due("22 below", x.rounds(-1), -1000000);
        Checks.due("22 a hundred", x.rounds(100), -1000000);
        Checks.due("22 one", x.rounds(1), (1103515245 + 12345 >>> 16) % 3 == 1 ? -1 : 1);
        x.tell(6);
        x.lot(1);
        Checks.due("22 from the position at first", x.rounds(50), more);
        Checks.due("22 the walk stays", x.now(2), 2);
        OthersMan none = new OthersMan();
        Checks.due("22 passes", none.rounds(99), 0);
        Checks.due("22 no draws for them", none.lot(3), 1);
        OthersMan one = Checks.told("law 1 0;law 1 6;uses 0 1;pit 3 2;");
        Checks.due("22 one step alone", one.rounds(7), 7);
        Checks.due("22 is drawn, too", one.lot(0), lotBehind(7));
        OthersMan long1 = Checks.told("board 2 2;law 1 0 4;man 0 0 0;man 1 1 0;home 0 1 1;home 1 0 1;");
        Checks.due("22 over by 99", long1.rounds(2), 0);
        Checks.due("22 99 draws each", long1.lot(0), lotBehind(198));
    }

    private static int lotBehind(int draws) {
        int lot = 1;
        for (int i = 0; i < draws; i++) lot = lot * 1103515245 + 12345;
        return lot;
    }

    private static void lot() {
        OthersMan x = new OthersMan();
        Checks.due("23 at first", x.lot(-5), 1);
        Checks.due("23 below", x.lot(Integer.MIN_VALUE), -5);
        Checks.due("23 least", x.lot(0), Integer.MIN_VALUE);
        Checks.due("23 none", x.lot(0), 0);
    }

    private static void askingChangesNothing() {
        OthersMan x = Checks.told("law 1 0 2 4 6;law 1 0 1 3 5 7;pit 1 1;bell 2 2;uses 1 1;refuses 0 2;refuses 1 2;");
        x.refuse(7);
        x.fairest(3);
        x.even(4);
        x.worth(0, 4);
        x.worth(1, 4);
        x.value(5);
        x.best(5);
        x.bag(1, 0, 4);
        x.rounds(9);
        int[] man = {15, 0, 1, 1, 129};
        for (int what = 0; what < 5; what++) Checks.due("15 man 1 " + what, x.man(1, what), man[what]);
        int[] now = {0, 0, 0, 7};
        for (int what = 0; what < 4; what++) Checks.due("15 now " + what, x.now(what), now[what]);
        Checks.due("28 the trace", x.trace(), 0);
    }
}

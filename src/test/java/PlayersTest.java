/** Promises 1 to 7: a new object, BARS, PLAYERS. */
public final class PlayersTest {
    public static void main(String[] args) {
        newObject();
        bar();
        barOf();
        player();
        of();
        kindsPlay();
        change();
        swap();
        Check.end();
    }

    private static void newObject() {
        OneShort x = new OneShort();
        for (int bar = 0; bar < 12; bar++) {
            Check.due("barOf 0", x.barOf(bar, 0), 63);
        }
        for (int what = 0; what < 8; what++) {
            Check.due("count(" + what + ")", x.count(what), what == 6 ? 1 : 0);
        }
        for (int spot = 0; spot < 10; spot++) {
            Check.due("as", x.as(spot, 0), Check.MISSING);
        }
        for (int s = 0; s < 4; s++) {
            Check.due("judge", x.judge(s), Check.MISSING);
        }
        Check.due("status", x.status(-1), 14);
        Check.due("undo", x.undo(), Check.NONE);
        Check.due("tear", x.tear(), 0);
        Check.due("wipe", x.wipe(), 0);
        Check.due("seed", x.seed(7), 1);
    }

    private static void bar() {
        OneShort x = new OneShort();
        Check.due("bar(0, 0)", x.bar(0, 0), 63);
        Check.due("bar(11, 5)", x.bar(11, 5), 63);
        Check.due("bar(11, 63)", x.bar(11, 63), 5);
        Check.due("bar(0, 63)", x.bar(0, 63), 0);
        Check.due("bar(-1, 0)", x.bar(-1, 0), Check.BEYOND);
        Check.due("bar(12, 0)", x.bar(12, 0), Check.BEYOND);
        Check.due("bar(3, -1)", x.bar(3, -1), Check.BEYOND);
        Check.due("bar(3, 64)", x.bar(3, 64), Check.BEYOND);
        Check.due("barOf(3, 0)", x.barOf(3, 0), 63);
    }

    private static void barOf() {
        OneShort x = Check.orchestra("player on 2 loud 2;player on 10 part 1 loud 1;late on 15 loud 0;bar 1 1;bar 2 2");
        Check.due("barOf(1, 0)", x.barOf(1, 0), 1);
        Check.due("barOf(1, 1)", x.barOf(1, 1), 1);
        Check.due("barOf(2, 1)", x.barOf(2, 1), 2);
        Check.due("barOf(3, 1)", x.barOf(3, 1), 7);
        Check.due("barOf(1, 2)", x.barOf(1, 2), 3);
        Check.due("barOf(2, 2)", x.barOf(2, 2), 1);
        Check.due("barOf(3, 2)", x.barOf(3, 2), 4);
        Check.due("barOf(-1, 0)", x.barOf(-1, 0), Check.BEYOND);
        Check.due("barOf(12, 0)", x.barOf(12, 0), Check.BEYOND);
        Check.due("barOf(0, -1)", x.barOf(0, -1), Check.BEYOND);
        Check.due("barOf(0, 3)", x.barOf(0, 3), Check.BEYOND);
    }

    private static void player() {
        OneShort x = new OneShort();
        Check.due("player(-1, 0)", x.player(-1, 0), Check.BEYOND);
        Check.due("player(7, 0)", x.player(7, 0), Check.BEYOND);
        Check.due("player(0, -1)", x.player(0, -1), Check.BEYOND);
        Check.due("player(0, 16)", x.player(0, 16), Check.BEYOND);
        for (int p = 0; p < 8; p++) {
            Check.due("player", x.player(p % 7, 15 - p), p);
        }
        Check.due("player(0, 0)", x.player(0, 0), Check.FULL);
        Check.due("player(7, 0)", x.player(7, 0), Check.BEYOND);
        for (int p = 0; p < 8; p++) {
            Check.due("of 0", x.of(p, 0), p % 7);
            Check.due("of 1", x.of(p, 1), 15 - p);
            Check.due("of 2", x.of(p, 2), 0);
            Check.due("of 3", x.of(p, 3), 5);
            Check.due("of 4", x.of(p, 4), 50);
        }
    }

    private static void of() {
        OneShort x = Check.orchestra("late on 3 part 2 loud 9 nerve 99;player on 12 loud 1;bar 5 0;bar 6 1");
        int[] due = {1, 3, 2, 9, 99, 0xF98, 0xF98};
        for (int what = 0; what < due.length; what++) {
            Check.due("of(0, " + what + ")", x.of(0, what), due[what]);
        }
        Check.due("of(1, 5)", x.of(1, 5), 0xFDF);
        Check.due("of(1, 6)", x.of(1, 6), 0xFDF);
        x.change(1, 1, 11);
        Check.due("of(1, 6), it hears the loud one", x.of(1, 6), 0x047);
        Check.due("of(0, 6), it hears nobody", x.of(0, 6), 0xF98);
        Check.due("of(-1, 0)", x.of(-1, 0), Check.BEYOND);
        Check.due("of(2, 0)", x.of(2, 0), Check.BEYOND);
        Check.due("of(0, -1)", x.of(0, -1), Check.BEYOND);
        Check.due("of(0, 7)", x.of(0, 7), Check.BEYOND);
    }

    private static void kindsPlay() {
        OneShort x = Check.orchestra("player part 5 nerve 79");
        for (int bar = 0; bar < 12; bar++) {
            x.bar(bar, bar < 6 ? 32 : 1);
        }
        int[] alone = {63, 56, 4095, 0, 0, 63, 40};
        int[] withOther = {63, 56, 4095, 4095, 4095, 63, 40};
        for (int kind = 0; kind < 7; kind++) {
            x.change(0, 0, kind);
            Check.due("kind " + kind + " alone", x.of(0, 5), alone[kind]);
        }
        x.change(0, 2, 0);
        x.change(0, 0, 3);
        Check.due("of PART 0 itself, but no other one is", x.of(0, 5), 0);
        x.change(0, 2, 5);
        x.player(6, 0);
        for (int kind = 0; kind < 7; kind++) {
            x.change(0, 0, kind);
            Check.due("kind " + kind + " with another one", x.of(0, 5), withOther[kind]);
        }
        x.change(1, 2, 1);
        x.change(0, 4, 80);
        for (int kind = 0; kind < 7; kind++) {
            x.change(0, 0, kind);
            Check.due("kind " + kind + " of NERVE 80", x.of(0, 5), kind == 4 ? 4095 : alone[kind]);
        }
        x.change(0, 0, 2);
        x.change(0, 2, 4);
        Check.due("DOUBLING of PART 4", x.of(0, 5), 63);
        x.change(0, 2, 0);
        Check.due("DOUBLING of PART 0", x.of(0, 5), 4032);
        x.change(0, 2, 1);
        Check.due("DOUBLING of PART 1", x.of(0, 5), 0);
    }

    private static void change() {
        OneShort x = Check.orchestra("player;player on 4");
        int[] first = {0, 4, 0, 5, 50};
        int[] most = {6, 15, 5, 9, 99};
        for (int what = 0; what < 5; what++) {
            Check.due("change most", x.change(1, what, most[what]), first[what]);
            Check.due("change too much", x.change(1, what, most[what] + 1), Check.BEYOND);
            Check.due("change too little", x.change(1, what, -1), Check.BEYOND);
            Check.due("of", x.of(1, what), most[what]);
            Check.due("change 0", x.change(1, what, 0), most[what]);
            Check.due("of", x.of(1, what), 0);
            Check.due("of the other one", x.of(0, what), what == 1 ? 0 : first[what]);
        }
        Check.due("change(0, -1, 0)", x.change(0, -1, 0), Check.BEYOND);
        Check.due("change(0, 5, 0)", x.change(0, 5, 0), Check.BEYOND);
        Check.due("change(2, 0, 0)", x.change(2, 0, 0), Check.BEYOND);
        Check.due("change(-1, 0, 0)", x.change(-1, 0, 0), Check.BEYOND);
    }

    private static void swap() {
        OneShort x = Check.orchestra("player on 3;late on 9 part 2;player on 3");
        Check.due("swap(0, 1)", x.swap(0, 1), 1);
        Check.due("of(0, 1)", x.of(0, 1), 9);
        Check.due("of(1, 1)", x.of(1, 1), 3);
        Check.due("of(1, 2)", x.of(1, 2), 2);
        Check.due("swap(1, 2)", x.swap(1, 2), 0);
        Check.due("of(2, 1)", x.of(2, 1), 3);
        Check.due("swap(1, 1)", x.swap(1, 1), Check.BEYOND);
        Check.due("swap(0, 3)", x.swap(0, 3), Check.BEYOND);
        Check.due("swap(-1, 0)", x.swap(-1, 0), Check.BEYOND);
    }
}

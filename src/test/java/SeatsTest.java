/** Promises 27 to 30: seats. */
public final class SeatsTest {
    public static void main(String[] args) {
        nearest();
        links();
        bestSwap();
        loudFor();
        Check.end();
    }

    private static void nearest() {
        OneShort x = Check.orchestra("player on 1;player on 12 part 1 loud 3;deaf on 0");
        Check.due("nearest(0, 1)", x.nearest(0, 1), 10);
        Check.due("nearest(1, 0)", x.nearest(1, 0), 0);
        Check.due("nearest(2, 1)", x.nearest(2, 1), 10);
        x.change(1, 3, 0);
        Check.due("nearest to one without SOUND", x.nearest(0, 1), 0);
        Check.due("nothing changes", x.of(0, 1), 1);
        Check.due("nearest(0, 0)", x.nearest(0, 0), Check.BEYOND);
        Check.due("nearest(0, 3)", x.nearest(0, 3), Check.BEYOND);
        Check.due("nearest(3, 0)", x.nearest(3, 0), Check.BEYOND);
        Check.due("nearest(-1, 0)", x.nearest(-1, 0), Check.BEYOND);
    }

    private static void links() {
        Check.due("links() of none", new OneShort().links(), 0);
        OneShort x = Check.orchestra("player on 0 loud 9;player on 8 loud 3;deaf on 9;married on 1 part 2 loud 9");
        Check.due("links()", x.links(), 5);
        for (int bar = 0; bar < 12; bar++) {
            x.bar(bar, bar == 11 ? 1 : 0);
        }
        Check.due("one BAR is enough, none isn't", x.links(), 3);
    }

    private static void bestSwap() {
        Check.due("bestSwap() of none", new OneShort().bestSwap(), Check.NONE);
        Check.due("bestSwap() of one", Check.orchestra("player").bestSwap(), Check.NONE);
        Check.due("bestSwap() of two", Check.orchestra("player;late").bestSwap(), 1);
        Check.due("of several the least pair", Check.orchestra("player;player;player").bestSwap(), 1);
        OneShort x = Check.orchestra("player on 0 loud 9;player on 15 loud 0;player on 8 loud 0");
        Check.due("bestSwap()", x.bestSwap(), 2);
        Check.due("nothing changes", x.of(0, 1), 0);
        Check.due("nothing changes", x.of(2, 1), 8);
        OneShort two = Check.orchestra("player on 15 loud 0;player on 8 loud 0;player on 0 loud 9");
        Check.due("8 times the lesser number", two.bestSwap(), 8 * 1 + 2);
    }

    private static void loudFor() {
        OneShort x = Check.orchestra("player on 5 loud 0;late on 0;bar 4 62");
        Check.due("loudFor(0, 5, 0)", x.loudFor(0, 5, 0), 1);
        Check.due("loudFor(0, 0, 0)", x.loudFor(0, 0, 0), 6);
        Check.due("loudFor(0, 13, 0)", x.loudFor(0, 13, 0), 9);
        Check.due("loudFor(0, 14, 0)", x.loudFor(0, 14, 0), Check.NONE);
        Check.due("loudFor(0, 5, 4)", x.loudFor(0, 5, 4), Check.NONE);
        Check.due("loudFor(1, 0, 2)", x.loudFor(1, 0, 2), Check.NONE);
        Check.due("loudFor(1, 0, 3)", x.loudFor(1, 0, 3), 1);
        Check.due("loudFor(2, 0, 0)", x.loudFor(2, 0, 0), Check.BEYOND);
        Check.due("loudFor(-1, 0, 0)", x.loudFor(-1, 0, 0), Check.BEYOND);
        Check.due("loudFor(0, 16, 0)", x.loudFor(0, 16, 0), Check.BEYOND);
        Check.due("loudFor(0, -1, 0)", x.loudFor(0, -1, 0), Check.BEYOND);
        Check.due("loudFor(0, 0, 12)", x.loudFor(0, 0, 12), Check.BEYOND);
        Check.due("loudFor(0, 0, -1)", x.loudFor(0, 0, -1), Check.BEYOND);
    }
}

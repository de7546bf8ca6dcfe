/** Promises 19 to 22: who is one too many. */
public final class SpareTest {
    public static void main(String[] args) {
        none();
        threeInARow();
        fewest();
        soundAlone();
        atTheEnds();
        Check.end();
    }

    private static void none() {
        OneShort x = new OneShort();
        Check.due("spare()", x.spare(), 0);
        Check.due("fewest()", x.fewest(), 0);
        Check.due("lost(0)", x.lost(0), 0);
        Check.due("lost(1)", x.lost(1), Check.BEYOND);
        Check.due("dearest()", x.dearest(), Check.NONE);
    }

    private static void threeInARow() {
        OneShort x = Check.orchestra("player on 4 loud 2;player on 5 loud 3;player on 14 part 1 loud 1;bar 0 2;bar 1 0");
        Check.due("spare()", x.spare(), 1);
        Check.due("fewest()", x.fewest(), 6);
        Check.due("lost(0)", x.lost(0), 0);
        Check.due("lost(1)", x.lost(1), 0);
        Check.due("lost(2)", x.lost(2), 10 * 3);
        Check.due("lost(3)", x.lost(3), 10 * 5);
        Check.due("lost(4)", x.lost(4), 11);
        Check.due("lost(7)", x.lost(7), 61);
        Check.due("lost(8)", x.lost(8), Check.BEYOND);
        Check.due("lost(-1)", x.lost(-1), Check.BEYOND);
        Check.due("dearest()", x.dearest(), 1);
        x.change(0, 3, 3);
        Check.due("dearest() of several", Check.orchestra("player;player").dearest(), 0);
        Check.due("spare()", x.spare(), 0);
        Check.due("fewest()", x.fewest(), 7);
    }

    private static void fewest() {
        OneShort x = Check.orchestra("player on 3;player on 3;player on 9;player on 9");
        Check.due("each alone is spare", x.spare(), 15);
        Check.due("of several the least", x.fewest(), 5);
        x.player(0, 3);
        x.change(4, 3, 9);
        Check.due("fewest() with a loud one", x.fewest(), 4 + 16);
        x.change(4, 1, 6);
        Check.due("fewest() with one for all", x.fewest(), 16);
        OneShort silent = Check.orchestra("player loud 0;sleeper loud 0");
        Check.due("nothing heard: spare()", silent.spare(), 3);
        Check.due("nothing heard: fewest()", silent.fewest(), 0);
        OneShort late = Check.orchestra("late;player;doubling part 5;bar 0 1");
        Check.due("fewest() by bars", late.fewest(), 2);
        late.bar(5, 32);
        Check.due("fewest() is rather one than the least of two", late.fewest(), 4);
    }

    private static void atTheEnds() {
        OneShort x = Check.orchestra("player on 0 loud 1;player on 15 loud 2");
        Check.due("lost(1)", x.lost(1), 12);
        Check.due("lost(2)", x.lost(2), 24);
        Check.due("lost(3)", x.lost(3), 36);
        Check.due("spare()", x.spare(), 0);
        Check.due("barOf(0, 2)", x.barOf(0, 2), 3);
        Check.due("now(4)", x.now(4), 12 * 4);
    }

    /** Without its SOUND a PLAYER is still one of PART 0, for whom a MARRIED one PLAYS. */
    private static void soundAlone() {
        OneShort x = Check.orchestra("player on 3 loud 2;married on 3 part 1 loud 9");
        Check.due("spare()", x.spare(), 1);
        Check.due("fewest()", x.fewest(), 2);
        Check.due("lost(1)", x.lost(1), 0);
        Check.due("dearest()", x.dearest(), 1);
    }
}

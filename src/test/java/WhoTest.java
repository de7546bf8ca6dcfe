/** Promises 23 to 26: who is who by what is played. */
public final class WhoTest {
    public static void main(String[] args) {
        parts();
        tells();
        halves();
        who();
        Check.end();
    }

    private static void parts() {
        OneShort x = Check.orchestra("player;late;player part 1;bar 4 1;bar 5 2;bar 6 0");
        Check.due("parts(0, 1)", x.parts(0, 1), 7);
        Check.due("parts(0, 2)", x.parts(0, 2), 48);
        Check.due("parts(2, 1)", x.parts(2, 1), 55);
        Check.due("parts(1, 1)", x.parts(1, 1), Check.BEYOND);
        Check.due("parts(0, 3)", x.parts(0, 3), Check.BEYOND);
        Check.due("parts(-1, 0)", x.parts(-1, 0), Check.BEYOND);
    }

    private static void tells() {
        Check.due("tells() of none", new OneShort().tells(), 0);
        Check.due("tells() of one", Check.orchestra("player").tells(), 0);
        OneShort x = Check.orchestra("player;late;sleeper;player part 1");
        Check.due("0 and 3 are alike", x.tells(), Check.NONE);
        x.bar(7, 62);
        Check.due("tells()", x.tells(), 1 + 16 + 128);
        x.bar(4, 62);
        Check.due("of several the least", x.tells(), 1 + 16 + 64);
        Check.due("not more than needed", Check.orchestra("player;player part 1;bar 3 1;bar 9 2").tells(), 8);
    }

    private static void halves() {
        Check.due("halves() of none", new OneShort().halves(), 0);
        OneShort x = Check.orchestra("player;player part 1;player part 2;player part 3;player part 4");
        Check.due("all play", x.halves(), 0);
        x.bar(3, 1);
        Check.due("one plays", x.halves(), 3);
        x.bar(5, 28);
        Check.due("two don't", x.halves(), 5);
        x.bar(4, 3);
        Check.due("of several the least", x.halves(), 4);
    }

    private static void who() {
        OneShort x = Check.orchestra("player;late;sleeper;doubling part 5;player part 5;bar 0 1;bar 1 0");
        Check.due("who(4093)", x.who(4093), 9);
        Check.due("who(4088)", x.who(4088), 2);
        Check.due("who(2728)", x.who(2728), 4);
        Check.due("who(4092)", x.who(4092), 16);
        Check.due("who(0)", x.who(0), 0);
        Check.due("who(1)", x.who(1), 0);
        x.player(3, 0);
        x.change(0, 2, 1);
        x.change(1, 2, 1);
        x.change(2, 2, 1);
        Check.due("who(0), a MARRIED one alone", x.who(0), 32);
        Check.due("who(4096)", x.who(4096), Check.BEYOND);
        Check.due("who(-1)", x.who(-1), Check.BEYOND);
        Check.due("who(4095) of none", new OneShort().who(4095), 0);
    }
}

/** Promises 31 to 35: how nerve went, and strings. */
public final class NerveTest {
    public static void main(String[] args) {
        fits();
        kinds();
        strings();
        odds();
        seed();
        Check.end();
    }

    private static void fits() {
        OneShort x = Check.orchestra("player on 5;player on 6 part 1;bar 0 1;bar 1 2;bar 2 8");
        Check.due("fits of a missing sheet", x.fits(0, 0), Check.MISSING);
        Check.due("missing is told ahead of no such player", x.fits(0, 9), Check.MISSING);
        Check.due("fits(4, 0)", x.fits(4, 0), Check.BEYOND);
        Check.due("fits(-1, 0)", x.fits(-1, 0), Check.BEYOND);
        Check.fill(x, 0, 8);
        Check.due("nothing told: any", x.fits(0, 0), 63);
        Check.due("fits(0, 2)", x.fits(0, 2), Check.BEYOND);
        Check.due("fits(0, -1)", x.fits(0, -1), Check.BEYOND);
        Check.fill(x, 1, 16, -1, 50 + 9 - 3);
        Check.due("fits of PARTS that play once alone", x.fits(1, 0), 1 + 8);
        Check.fill(x, 1, 32, 50, 59, 68);
        Check.due("fits of PARTS never alone", x.fits(1, 0), 4 + 16 + 32);
        Check.fill(x, 1, 32, 50, -1, 70);
        Check.due("fits of the other's PART", x.fits(1, 0), 2);
        Check.fill(x, 1, 32, 49, -1, 70);
        Check.due("its NERVE now is another one", x.fits(1, 0), 0);
        Check.fill(x, 1, 8, 255, 255, 255);
        Check.due("of 8 bits 255 is -1", x.fits(1, 0), 63);
        Check.fill(x, 1, 8, 50, -2);
        Check.due("-2 isn't any", x.fits(1, 0), 0);
        Check.due("nothing changes", x.of(0, 2), 0);
        Check.due("nothing changes", x.of(0, 4), 50);
    }

    private static void kinds() {
        OneShort x = Check.orchestra("player on 5;player on 6 part 1");
        Check.due("kinds of a missing sheet", x.kinds(3, 0), Check.MISSING);
        Check.due("missing is told ahead of no such player", x.kinds(3, 9), Check.MISSING);
        Check.due("kinds(4, 0)", x.kinds(4, 0), Check.BEYOND);
        Check.due("kinds(-1, 0)", x.kinds(-1, 0), Check.BEYOND);
        Check.fill(x, 3, 8);
        Check.due("nothing told: any", x.kinds(3, 0), 127);
        Check.due("kinds(3, 2)", x.kinds(3, 2), Check.BEYOND);
        Check.due("kinds(3, -1)", x.kinds(3, -1), Check.BEYOND);
        Check.fill(x, 3, 8, 50, 62);
        Check.due("of all BARS", x.kinds(3, 0), 1 + 4 + 32);
        Check.fill(x, 3, 8, -1, 59);
        Check.due("LATE", x.kinds(3, 0), 2);
        Check.fill(x, 3, 8, -1, -1, 60);
        Check.due("SLEEPER", x.kinds(3, 0), 64);
        Check.fill(x, 3, 8, -1, -1, 50);
        Check.due("MARRIED without another one of PART 0", x.kinds(3, 0), 8 + 16);
        Check.due("nothing changes", x.of(0, 0), 0);
    }

    private static void strings() {
        OneShort x = Check.orchestra("player on 5;player on 6;player on 7;player on 8;player on 9;player on 10;player on 11;player on 12");
        // The draws from z = 1 on have the rests 14, 0, 4, 11, 15, 4, 6, 14.
        Check.due("strings(1), nobody", x.strings(1), 0);
        Check.due("now(0)", x.now(0), 1);
        Check.due("now(1)", x.now(1), 8 * 62);
        Check.due("strings(1), the first one", x.strings(1), 1);
        Check.due("an evening goes by then", x.of(0, 4), 12);
        Check.due("of(1, 4)", x.of(1, 4), 74);
        Check.due("strings(6), 4 and 4 and 6", x.strings(6), 3);
        Check.due("now(0)", x.now(0), 8);
        Check.due("an evening goes by behind each draw", x.of(4, 4), 36);
        Check.due("of(6, 4)", x.of(6, 4), 24);
        Check.due("seed", x.seed(0), -1661227463);
        Check.due("strings(0)", x.strings(0), Check.BEYOND);
        Check.due("strings(13)", x.strings(13), Check.BEYOND);
        Check.due("strings(12)", x.strings(12) >= 0 ? 1 : 0, 1);
        Check.due("now(0)", x.now(0), 20);
    }

    private static void odds() {
        OneShort x = new OneShort();
        Check.due("nobody to be hit", x.odds(14, 0), 1);
        Check.due("nobody to be hit", x.odds(14, 1), 1);
        long[] above = {1, 15, 7, 13, 3, 11, 5, 9, 1};
        long[] below = {1, 16, 8, 16, 4, 16, 8, 16, 2};
        for (int n = 0; n < 9; n++) {
            Check.due("odds(1, 0) of " + n, x.odds(1, 0), above[n]);
            Check.due("odds(1, 1) of " + n, x.odds(1, 1), below[n]);
            Check.due("odds(3, 0) of " + n, x.odds(3, 0), above[n] * above[n] * above[n]);
            Check.due("odds(0, 0) of " + n, x.odds(0, 0), 1);
            Check.due("odds(0, 1) of " + n, x.odds(0, 1), 1);
            if (n == 1) {
                Check.due("odds(14, 0)", x.odds(14, 0), 29192926025390625L);
                Check.due("odds(14, 1)", x.odds(14, 1), 1L << 56);
            }
            x.player(0, 0);
        }
        Check.due("odds(-1, 0)", x.odds(-1, 0), Check.BEYOND);
        Check.due("odds(15, 0)", x.odds(15, 0), Check.BEYOND);
        Check.due("odds(0, -1)", x.odds(0, -1), Check.BEYOND);
        Check.due("odds(0, 2)", x.odds(0, 2), Check.BEYOND);
    }

    private static void seed() {
        OneShort x = new OneShort();
        Check.due("seed(-1000001)", x.seed(-1000001), 1);
        Check.due("seed(5)", x.seed(5), -1000001);
        Check.due("that is no finding", x.status(-1), 0);
        x.strings(1);
        Check.due("count(6)", x.count(6), 5 * 1103515245 + 12345);
    }
}

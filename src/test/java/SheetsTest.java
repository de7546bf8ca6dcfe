/** Promises 39 to 45: SPOTS and SHEETS. */
public final class SheetsTest {
    public static void main(String[] args) {
        hold();
        as();
        sheet();
        write();
        copy();
        load();
        judge();
        Check.end();
    }

    private static void hold() {
        OneShort x = Check.orchestra("player;late");
        Check.due("hold(0, 1)", x.hold(0, 1), 1);
        Check.due("hold(9, 0)", x.hold(9, 0), 1);
        Check.due("hold(3, -1)", x.hold(3, -1), 1);
        Check.due("count(7)", x.count(7), 2);
        Check.due("as(0, 0)", x.as(0, 0), 1);
        Check.due("hold(0, -1)", x.hold(0, -1), 1);
        Check.due("as(0, 0)", x.as(0, 0), Check.MISSING);
        Check.due("hold(10, 0)", x.hold(10, 0), Check.BEYOND);
        Check.due("hold(-1, 0)", x.hold(-1, 0), Check.BEYOND);
        Check.due("hold(9, 2)", x.hold(9, 2), Check.BEYOND);
        Check.due("hold(9, -2)", x.hold(9, -2), Check.BEYOND);
        Check.due("as(9, 0)", x.as(9, 0), 0);
        Check.due("count(7)", x.count(7), 1);
    }

    private static void as() {
        OneShort x = Check.orchestra("player;late;doubling;married;extra;deaf;sleeper");
        // Of each KIND the set of those as which it may be taken.
        int[] isA = {1, 3, 5, 13, 29, 33, 67};
        for (int kind = 0; kind < 7; kind++) {
            x.hold(2, kind);
            for (int as = 0; as < 7; as++) {
                Check.due(kind + " as " + as, x.as(2, as), (isA[kind] >> as & 1) != 0 ? kind : Check.KIND);
            }
        }
        Check.due("as(2, 7)", x.as(2, 7), Check.BEYOND);
        Check.due("as(2, -1)", x.as(2, -1), Check.BEYOND);
        Check.due("as(10, 0)", x.as(10, 0), Check.BEYOND);
        Check.due("as(-1, 0)", x.as(-1, 0), Check.BEYOND);
        Check.due("as(1, 7), BEYOND is told first", x.as(1, 7), Check.BEYOND);
        Check.due("as(1, 3)", x.as(1, 3), Check.MISSING);
        x.change(6, 0, 5);
        Check.due("a KIND that was changed", x.as(2, 1), Check.KIND);
        Check.due("a KIND that was changed", x.as(2, 5), 6);
    }

    private static void sheet() {
        OneShort x = new OneShort();
        Check.due("sheet(3, 8, 40)", x.sheet(3, 8, 40), 40);
        Check.due("sheet(0, 32, 0)", x.sheet(0, 32, 0), 0);
        Check.due("judge(0)", x.judge(0), 0);
        Check.due("sheet(0, 0, 12)", x.sheet(0, 0, 12), 0);
        Check.due("judge(0)", x.judge(0), Check.MISSING);
        Check.due("sheet(4, 8, 1)", x.sheet(4, 8, 1), Check.BEYOND);
        Check.due("sheet(-1, 8, 1)", x.sheet(-1, 8, 1), Check.BEYOND);
        Check.due("sheet(1, 7, 1)", x.sheet(1, 7, 1), Check.BEYOND);
        Check.due("sheet(1, 64, -1)", x.sheet(1, 64, -1), Check.BEYOND);
        Check.due("sheet(1, 8, -1)", x.sheet(1, 8, -1), Check.SIZE);
        Check.due("sheet(1, 0, -1)", x.sheet(1, 0, -1), Check.SIZE);
        Check.due("sheet(1, 16, 41)", x.sheet(1, 16, 41), Check.BEYOND);
        Check.due("sheet(1, 0, 41)", x.sheet(1, 0, 41), Check.BEYOND);
        Check.due("still missing", x.judge(1), Check.MISSING);
        Check.fill(x, 3, 8, 1, 2, 3);
        Check.due("again", x.sheet(3, 8, 3), 3);
        Check.due("load(3)", x.load(3), 3);
        Check.due("all are 0", x.barOf(0, 0) + x.barOf(1, 0) + x.barOf(2, 0), 0);
    }

    private static void write() {
        OneShort x = Check.orchestra("player nerve 1");
        Check.due("write(4, 0, 0)", x.write(4, 0, 0), Check.BEYOND);
        Check.due("write(-1, 0, 0)", x.write(-1, 0, 0), Check.BEYOND);
        Check.due("write(0, 50, 0)", x.write(0, 50, 0), Check.MISSING);
        x.sheet(0, 8, 2);
        Check.due("write(0, 2, 0)", x.write(0, 2, 0), Check.BEYOND);
        Check.due("write(0, -1, 0)", x.write(0, -1, 0), Check.BEYOND);
        lowest(x, 8, 256 + 5, 5);
        lowest(x, 8, 0x12345680, -1);
        lowest(x, 16, 65536 + 300, -1);
        lowest(x, 16, 65536 + 6, 6);
        lowest(x, 32, 65536 + 6, -1);
        lowest(x, 32, 63, 63);
        Check.fill(x, 1, 8, 255);
        Check.due("255 of 8 bits is -1: any", x.fits(1, 0), 63);
        Check.fill(x, 1, 16, 255);
        Check.due("255 of 16 bits isn't", x.fits(1, 0), 0);
        Check.fill(x, 1, 16, 65535);
        Check.due("65535 of 16 bits is -1", x.fits(1, 0), 63);
        Check.fill(x, 1, 32, 65535);
        Check.due("65535 of 32 bits isn't", x.fits(1, 0), 0);
    }

    /** What a number is once written is told by the BAR that it becomes; -1: it becomes none. */
    private static void lowest(OneShort x, int bits, int v, int due) {
        Check.fill(x, 2, bits, v);
        Check.due("load of " + v + " of " + bits + " bits", x.load(2), due < 0 ? 0 : 1);
        Check.due("the bar", due < 0 ? -1 : x.barOf(0, 0), due);
    }

    private static void copy() {
        OneShort x = new OneShort();
        Check.due("copy(4, 0, 0, 0, 0)", x.copy(4, 0, 0, 0, 0), Check.BEYOND);
        Check.due("copy(0, 0, 4, 0, 0)", x.copy(0, 0, 4, 0, 0), Check.BEYOND);
        Check.due("copy(-1, 0, 0, 0, 0)", x.copy(-1, 0, 0, 0, 0), Check.BEYOND);
        Check.due("copy(0, 0, -1, 0, 0)", x.copy(0, 0, -1, 0, 0), Check.BEYOND);
        Check.fill(x, 0, 8, 1, 2, 3, 4, 5);
        Check.due("to one that is missing", x.copy(0, 0, 1, 0, 99), Check.MISSING);
        Check.due("from one that is missing", x.copy(1, 0, 0, 0, 99), Check.MISSING);
        Check.fill(x, 1, 16, 9, 9, 9);
        Check.due("of other bits", x.copy(0, 0, 1, 0, 99), Check.KIND);
        Check.fill(x, 1, 8, 9, 9, 9);
        Check.due("too many to come", x.copy(0, 0, 1, 0, 4), Check.BEYOND);
        Check.due("too many to go", x.copy(1, 0, 0, 0, 4), Check.BEYOND);
        Check.due("too many to come from a later one", x.copy(0, 4, 1, 0, 2), Check.BEYOND);
        Check.due("too many to go to a later one", x.copy(0, 0, 1, 2, 2), Check.BEYOND);
        Check.due("from below 0", x.copy(0, -1, 1, 0, 1), Check.BEYOND);
        Check.due("to below 0", x.copy(0, 0, 1, -1, 1), Check.BEYOND);
        Check.due("n below 0", x.copy(0, 1, 1, 1, -1), Check.BEYOND);
        Check.due("none from behind the last", x.copy(0, 6, 1, 0, 0), Check.BEYOND);
        Check.due("a sum that wraps round", x.copy(0, 2147483647, 1, 0, 2147483647), Check.BEYOND);
        Check.due("a sum that wraps round", x.copy(0, 2, 1, 2, 2147483647), Check.BEYOND);
        Check.due("none from the end", x.copy(0, 5, 1, 3, 0), 0);
        Check.due("copy(0, 1, 1, 1, 2)", x.copy(0, 1, 1, 1, 2), 2);
        bars(x, 1, 9, 2, 3);
        Check.due("onto itself, up", x.copy(0, 0, 0, 1, 4), 4);
        bars(x, 0, 1, 1, 2, 3, 4);
        Check.due("onto itself, down", x.copy(0, 2, 0, 0, 3), 3);
        bars(x, 0, 2, 3, 4, 3, 4);
    }

    private static void bars(OneShort x, int s, int... due) {
        Check.due("load", x.load(s), due.length);
        for (int bar = 0; bar < due.length; bar++) {
            Check.due("number " + bar, x.barOf(bar, 0), due[bar]);
        }
    }

    private static void load() {
        OneShort x = new OneShort();
        Check.due("load(4)", x.load(4), Check.BEYOND);
        Check.due("load(-1)", x.load(-1), Check.BEYOND);
        Check.due("load(0)", x.load(0), Check.MISSING);
        Check.fill(x, 0, 16, 7, 0, 64, 5);
        Check.due("it ends at 64", x.load(0), 2);
        bars(x, 0, 7, 0);
        Check.due("the next stays", x.barOf(2, 0), 63);
        Check.fill(x, 0, 16, -1, 5);
        Check.due("it ends at -1", x.load(0), 0);
        Check.fill(x, 0, 8, 1, 2, 3, 4, 5, 6, 7, 8, 9, 10, 11, 12, 13);
        Check.due("there is no BAR 12", x.load(0), 12);
        Check.due("the last BAR", x.barOf(11, 0), 12);
    }

    private static void judge() {
        OneShort x = Check.orchestra("player on 0 loud 9;player on 8 loud 1;deaf on 9 loud 9;player on 9 part 1 loud 9");
        Check.due("judge(4)", x.judge(4), Check.BEYOND);
        Check.due("judge(-1)", x.judge(-1), Check.BEYOND);
        Check.due("judge(0)", x.judge(0), Check.MISSING);
        judged(x, 0);
        judged(x, 0, 0);
        judged(x, 1, -1);
        judged(x, 1, 4);
        judged(x, 0, 0, 1);
        judged(x, 2, 1, 0);
        judged(x, 3, 0, 1, 0);
        judged(x, 3, 0, 1, 1);
        judged(x, 3, 0, 1, 2);
        judged(x, 3, 3, 1, 3, 1);
        judged(x, 0, 2, 3, 2, 1);
        judged(x, 4, 2, 3, 2, 4);
        for (int bar = 0; bar < 12; bar++) {
            x.bar(bar, bar == 7 ? 2 : 0);
        }
        judged(x, 2, 0, 1);
        judged(x, 0, 3, 1);
    }

    private static void judged(OneShort x, int due, int... row) {
        Check.fill(x, 0, 16, row);
        Check.due("judge", x.judge(0), due);
    }
}

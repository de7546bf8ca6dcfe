/** Promises 46 to 50: images, counts, findings. */
public final class ImageTest {
    public static void main(String[] args) {
        image();
        undo();
        tear();
        count();
        status();
        Check.end();
    }

    private static void image() {
        OneShort x = Check.orchestra("player on 1 part 2 loud 3 nerve 4;late on 15;bar 3 9");
        x.hold(4, 1);
        x.go(3);
        x.seed(77);
        int nerve = x.of(1, 4);
        Check.due("image()", x.image(), 1);
        x.strings(2);
        x.hold(4, -1);
        x.hold(5, 0);
        x.bar(3, 1);
        for (int what = 0; what < 5; what++) {
            x.change(0, what, 0);
        }
        x.player(0, 0);
        x.hold(6, 2);
        Check.feed(x, "de");
        Check.fill(x, 2, 8, 5, 6);
        Check.due("undo()", x.undo(), 3);
        Check.due("BARS", x.barOf(3, 0), 9);
        Check.due("KIND", x.of(1, 0), 1);
        Check.due("SEAT", x.of(0, 1), 1);
        Check.due("PART", x.of(0, 2), 2);
        Check.due("NERVE", x.of(1, 4), nerve);
        Check.due("PLAYERS", x.count(1), 2);
        Check.due("EVENING", x.count(0), 3);
        Check.due("z", x.count(6), 77);
        Check.due("SPOT 4", x.as(4, 0), 1);
        Check.due("SPOT 5", x.as(5, 0), Check.MISSING);
        Check.due("SPOT 6", x.as(6, 0), Check.MISSING);
        Check.due("THE TAPE stays", x.count(5), 2);
        Check.due("SHEETS stay", x.load(2), 2);
        Check.due("barOf(0, 0)", x.barOf(0, 0), 5);
    }

    private static void undo() {
        OneShort x = new OneShort();
        Check.due("undo()", x.undo(), Check.NONE);
        x.image();
        x.go(2);
        x.image();
        x.go(5);
        Check.due("the latest", x.undo(), 2);
        x.go(7);
        Check.due("it stays", x.undo(), 2);
        Check.due("now(0)", x.now(0), 2);
        x.player(0, 3);
        x.change(0, 1, 5);
        x.image();
        x.change(0, 1, 6);
        Check.due("undo()", x.undo(), 2);
        x.change(0, 1, 7);
        Check.due("what is kept doesn't change with what it became", x.undo(), 2);
        Check.due("of(0, 1)", x.of(0, 1), 5);
    }

    private static void tear() {
        OneShort x = new OneShort();
        Check.due("tear()", x.tear(), 0);
        x.image();
        x.image();
        x.go(1);
        Check.due("tear()", x.tear(), 1);
        Check.due("tear()", x.tear(), 0);
        Check.due("undo()", x.undo(), Check.NONE);
        Check.due("now(0)", x.now(0), 1);
    }

    private static void count() {
        OneShort x = Check.orchestra("player on 0 loud 3 nerve 0;player on 15 loud 9 nerve 8;late nerve 0");
        x.hold(1, 2);
        x.hold(2, 2);
        Check.feed(x, "abc");
        int[] due = {0, 3, 2, 17, 8, 3, 1, 2};
        for (int what = 0; what < due.length; what++) {
            Check.due("count(" + what + ")", x.count(what), due[what]);
        }
        x.go(4);
        Check.due("count(0)", x.count(0), 4);
        Check.due("count(-1)", x.count(-1), Check.BEYOND);
        Check.due("count(8)", x.count(8), Check.BEYOND);
    }

    private static void status() {
        OneShort x = new OneShort();
        Check.due("status(-1)", x.status(-1), 0);
        x.image();
        x.of(0, 0);
        for (int p = 0; p < 9; p++) {
            x.player(0, 0);
        }
        x.hold(0, 0);
        x.as(0, 1);
        x.tells();
        x.tells();
        x.judge(0);
        x.judge(1);
        x.judge(2);
        x.sheet(0, 8, -5);
        x.odds(99, 0);
        Check.tell(x, "flute");
        x.seed(-1000002);
        x.seed(1);
        int[] due = {2, 1, 1, 2, 0, 3, 1};
        for (int which = 0; which < 7; which++) {
            Check.due("status(" + which + ")", x.status(which), due[which]);
        }
        Check.due("status(-1)", x.status(-1), 10);
        Check.due("undo()", x.undo(), 0);
        Check.due("undo() takes none back", x.status(-1), 10);
        Check.due("status(7)", x.status(7), Check.BEYOND);
        Check.due("status(-2)", x.status(-2), Check.BEYOND);
        Check.due("counted from then on", x.status(0), 4);
        Check.due("status(-1)", x.status(-1), 12);
    }
}

/** Promises 36 to 38: THE TAPE and TEXTS. */
public final class TextTest {
    public static void main(String[] args) {
        feed();
        wipe();
        wholeText();
        blanks();
        faults();
        places();
        ninth();
        nothingChanges();
        Check.end();
    }

    private static void feed() {
        OneShort x = new OneShort();
        Check.due("feed(.., 0)", x.feed(1, 0), Check.BEYOND);
        Check.due("feed(.., 5)", x.feed(1, 5), Check.BEYOND);
        Check.due("feed(.., -1)", x.feed(1, -1), Check.BEYOND);
        Check.due("feed 'late'", x.feed(0x6c617465, 4), 4);
        Check.due("feed ' on'", x.feed(0x7f206f6e, 3), 7);
        Check.due("feed '12'", x.feed(0xffff3132, 2), 9);
        Check.due("feed ';'", x.feed(-256 + ';', 1), 10);
        Check.due("feed 'deaf'", x.feed(0x64656166, 4), 14);
        Check.due("count(5)", x.count(5), 14);
        Check.due("text()", x.text(), 2);
        Check.due("of(0, 1)", x.of(0, 1), 12);
        Check.due("of(1, 0)", x.of(1, 0), 5);
        for (int n = 4; n <= 116; n += 4) {
            Check.due("feed", x.feed(0x20202020, 4), n);
        }
        Check.due("feed", x.feed(0x202020, 3), 119);
        Check.due("feed(.., 2)", x.feed(0x2020, 2), Check.FULL);
        Check.due("feed(.., 9)", x.feed(0x2020, 9), Check.BEYOND);
        Check.due("feed(.., 1)", x.feed(0xe4, 1), 120);
        Check.due("feed(.., 1)", x.feed(0x20, 1), Check.FULL);
        Check.due("a byte above 127 begins no TOKEN", x.text(), -120);
        Check.due("feed", x.feed(0x20, 1), 1);
    }

    private static void wipe() {
        OneShort x = new OneShort();
        Check.feed(x, "late ");
        Check.due("wipe()", x.wipe(), 5);
        Check.due("wipe()", x.wipe(), 0);
        Check.due("what was wiped is gone", Check.tell(x, "deaf"), 1);
    }

    private static void wholeText() {
        OneShort x = new OneShort();
        Check.due("all KINDS", Check.tell(x, "player;late;doubling;married;extra;deaf;sleeper"), 7);
        for (int kind = 0; kind < 7; kind++) {
            Check.due("KIND", x.of(kind, 0), kind);
            Check.due("SEAT", x.of(kind, 1), 0);
            Check.due("PART", x.of(kind, 2), 0);
            Check.due("LOUD", x.of(kind, 3), 5);
            Check.due("NERVE", x.of(kind, 4), 50);
        }
        Check.due("count(5)", x.count(5), 0);
        Check.due("text()", Check.tell(x, "extra on 15 part 5 loud 9 nerve 99;bar 11 63;bar 0 0;bar 0 7;bar 1 0"), 5);
        int[] due = {4, 15, 5, 9, 99};
        for (int what = 0; what < 5; what++) {
            Check.due("of(7, " + what + ")", x.of(7, what), due[what]);
        }
        Check.due("the later ITEM stays", x.barOf(0, 0), 7);
        Check.due("barOf(1, 0)", x.barOf(1, 0), 0);
        Check.due("barOf(11, 0)", x.barOf(11, 0), 63);
        OneShort some = Check.orchestra("late part 3 nerve 0;deaf loud 0;player on 4 loud 1;married nerve 7");
        Check.due("without on", some.of(0, 1), 0);
        Check.due("with part", some.of(0, 2), 3);
        Check.due("with nerve", some.of(0, 4), 0);
        Check.due("with loud", some.of(1, 3), 0);
        Check.due("without part", some.of(2, 2), 0);
        Check.due("with nerve alone", some.of(3, 4), 7);
    }

    private static void blanks() {
        tells("  deaf  ;  bar  1  2  ", 2);
        tells("late on1part2loud3nerve4;bar5 6", 2);
        tells("bar 0005 000063", 1);
        tells("deaf\ton 1", -1 - 4);
        tells("deaf\n", -1 - 4);
    }

    private static void faults() {
        tells("", -1 - 0);
        tells("   ", -1 - 3);
        tells("flute", -1 - 0);
        tells("Late", -1 - 0);
        tells(" lates", -1 - 1);
        tells("gate", -1 - 0);
        tells("latez", -1 - 0);
        tells("latea 1", -1 - 0);
        tells("lat e", -1 - 0);
        tells("5", -1 - 0);
        tells("on 3", -1 - 0);
        tells(";", -1 - 0);
        tells("late;", -1 - 5);
        tells("late; ", -1 - 6);
        tells("late;;late", -1 - 5);
        tells("late late", -1 - 5);
        tells("late 5", -1 - 5);
        tells("late bar", -1 - 5);
        tells("late on", -1 - 7);
        tells("late on ", -1 - 8);
        tells("late on;", -1 - 7);
        tells("late on on", -1 - 8);
        tells("late on 1 on 1", -1 - 10);
        tells("late part 1 on 1", -1 - 12);
        tells("late loud 1 part 1", -1 - 12);
        tells("late nerve 1 loud 1", -1 - 13);
        tells("late nerve 1 nerve 1", -1 - 13);
        tells("late nerve 1,", -1 - 12);
        tells("late on -1", -1 - 8);
        tells("bar", -1 - 3);
        tells("bar 1", -1 - 5);
        tells("bar 1;", -1 - 5);
        tells("bar 1 2 3", -1 - 8);
        tells("bar on 1 2", -1 - 4);
        tells("bars 1 2", -1 - 0);
        tells("deaf;flute;!", -1 - 5);
    }

    private static void places() {
        tells("late on 15", 1);
        tells("late on 16", -1 - 8);
        tells("late part 5", 1);
        tells("late part 6", -1 - 10);
        tells("late loud 9", 1);
        tells("late loud 10", -1 - 10);
        tells("late nerve 99", 1);
        tells("late nerve 100", -1 - 11);
        tells("bar 11 63", 1);
        tells("bar 12 63", -1 - 4);
        tells("bar 11 64", -1 - 7);
        tells("bar 1000 1", -1 - 4);
        tells("bar 4294967296 1", -1 - 4);
        tells("bar 0 18446744073709551616", -1 - 6);
        tells("bar 1163", -1 - 4);
    }

    private static void ninth() {
        String eight = "deaf;late;deaf;deaf;deaf;deaf;deaf;deaf";
        tells(eight, 8);
        tells(eight + ";bar 1 2", 9);
        tells(eight + ";deaf", -1 - 40);
        tells(eight + "; deaf on 99", -1 - 41);
        OneShort x = Check.orchestra("player;player;player;player;player;player;player");
        Check.due("the 9th with those that there were", Check.tell(x, "bar 1 1;late;late"), -1 - 13);
        Check.due("nothing changed", x.count(1), 7);
        Check.due("nothing changed", x.barOf(1, 0), 63);
        Check.due("the 8th", Check.tell(x, "bar 1 1;late"), 2);
        Check.due("the 9th", Check.tell(x, "late"), -1);
    }

    private static void nothingChanges() {
        OneShort x = new OneShort();
        Check.due("text()", Check.tell(x, "bar 1 1;late on 1;bar 2 2;late no"), -1 - 31);
        Check.due("count(5)", x.count(5), 0);
        Check.due("count(1)", x.count(1), 0);
        Check.due("barOf(1, 0)", x.barOf(1, 0), 63);
        Check.due("a FAULT is no finding", x.status(-1), 0);
    }

    private static void tells(String text, int due) {
        OneShort x = new OneShort();
        Check.due("text() of '" + text + "'", Check.tell(x, text), due);
        Check.due("count(5)", x.count(5), 0);
    }
}

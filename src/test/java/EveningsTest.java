/** Promises 12 to 18: evenings, and what will be. */
public final class EveningsTest {
    public static void main(String[] args) {
        go();
        lastEvening();
        byWhatAllIsThen();
        now();
        ahead();
        broken();
        settles();
        kindFor();
        seatFor();
        Check.end();
    }

    private static void go() {
        OneShort x = Check.orchestra("player on 5;player on 6;player on 15");
        Check.due("go(1)", x.go(1), 62 + 62 + 14);
        Check.due("of(0, 4)", x.of(0, 4), 62);
        Check.due("of(2, 4)", x.of(2, 4), 14);
        Check.due("go(1)", x.go(1), 74 + 74);
        Check.due("without nerve less loud", x.of(2, 3), 4);
        Check.due("loud with nerve", x.of(0, 3), 5);
        Check.due("go(20)", x.go(20), 198);
        Check.due("held at 99", x.of(0, 4), 99);
        Check.due("loud held at 0", x.of(2, 3), 0);
        Check.due("now(0)", x.now(0), 22);
        Check.due("go(0)", x.go(0), Check.BEYOND);
        Check.due("go(21)", x.go(21), Check.BEYOND);
        Check.due("go(-1)", x.go(-1), Check.BEYOND);
        Check.due("now(0)", x.now(0), 22);
        Check.due("go of none", new OneShort().go(20), 0);
        OneShort silent = Check.orchestra("late on 3 nerve 2;player on 3 part 1 nerve 1;bar 11 62");
        Check.due("the LATE one is there in bars 3 to 10", silent.go(1), 10 + 5);
        Check.due("held at 0 in bars 0 to 2, alone in bar 11", silent.of(1, 4), 5);
    }

    /** No 512 calls come so far; but what is written for it should hold. */
    private static void lastEvening() {
        OneShort x = new OneShort();
        for (int i = 0; i < 4999; i++) {
            x.go(20);
        }
        Check.due("go(20)", x.go(20), Check.STATE);
        Check.due("go(21)", x.go(21), Check.BEYOND);
        x.image();
        Check.due("go(19)", x.go(19), 0);
        Check.due("now(0)", x.now(0), 99999);
        x.undo();
        Check.due("go(17)", x.go(17), 0);
        Check.due("strings(3)", x.strings(3), Check.STATE);
        Check.due("strings(2)", x.strings(2), 0);
        Check.due("now(0)", x.now(0), 99999);
        Check.due("go(1)", x.go(1), Check.STATE);
        Check.due("go(0), BEYOND is told first", x.go(0), Check.BEYOND);
        Check.due("strings(13), BEYOND is told first", x.strings(13), Check.BEYOND);
        Check.due("strings(1)", x.strings(1), Check.STATE);
        Check.due("count(6)", x.count(6), -1770082073);
        Check.due("settles()", x.settles(), 0);
        Check.due("status(4)", x.status(4), 4);
    }

    private static void byWhatAllIsThen() {
        OneShort x = Check.orchestra("extra on 0 part 1 nerve 80;player on 1 part 2 loud 0");
        for (int bar = 0; bar < 12; bar++) {
            x.bar(bar, bar < 2 ? 4 : 0);
        }
        x.go(1);
        // In BAR 0 the brave one plays and is heard, though it has too little nerve behind it.
        Check.due("the brave one stops", x.of(0, 4), 77);
        Check.due("the other one hears it in BAR 0 and not in BAR 1", x.of(1, 4), 50 + 1 - 3);
    }

    private static void now() {
        OneShort x = Check.orchestra("player on 1 loud 2 nerve 0;player on 9 part 1 loud 1 nerve 7;player loud 0 nerve 0;bar 0 1");
        Check.due("now(0)", x.now(0), 0);
        Check.due("now(1)", x.now(1), 7);
        Check.due("now(2)", x.now(2), 5);
        Check.due("now(3)", x.now(3), 3);
        Check.due("now(4)", x.now(4), 12 * 4 + 11);
        Check.due("now(5)", x.now(5), Check.BEYOND);
        Check.due("now(-1)", x.now(-1), Check.BEYOND);
    }

    private static void ahead() {
        OneShort x = Check.orchestra("player on 5 nerve 60;player on 15;player on 6");
        Check.due("ahead(0, 0)", x.ahead(0, 0), 60);
        Check.due("ahead(0, 1)", x.ahead(0, 1), 72);
        Check.due("ahead(1, 1)", x.ahead(1, 1), 14);
        Check.due("ahead(0, 40)", x.ahead(0, 40), 99);
        Check.due("ahead(0, 41)", x.ahead(0, 41), Check.BEYOND);
        Check.due("ahead(0, -1)", x.ahead(0, -1), Check.BEYOND);
        Check.due("ahead(3, 0)", x.ahead(3, 0), Check.BEYOND);
        Check.due("ahead(-1, 0)", x.ahead(-1, 0), Check.BEYOND);
        Check.due("nothing changes", x.of(0, 4), 60);
        Check.due("nothing changes", x.now(0), 0);
    }

    private static void broken() {
        OneShort x = Check.orchestra("player on 5 nerve 0;player on 15 nerve 37;player on 6;player part 1 nerve 98");
        Check.due("broken(0)", x.broken(0), 0);
        Check.due("broken(1)", x.broken(1), 2);
        Check.due("broken(2)", x.broken(2), Check.NONE);
        for (int bar = 1; bar < 12; bar++) {
            x.bar(bar, 1);
        }
        Check.due("broken(3)", x.broken(3), 33);
        x.bar(0, 1);
        Check.due("broken(3) that never plays", x.broken(3), Check.NONE);
        Check.due("broken(4)", x.broken(4), Check.BEYOND);
        Check.due("broken(-1)", x.broken(-1), Check.BEYOND);
        Check.due("nothing changes", x.of(1, 4), 37);
        OneShort edge = Check.orchestra("player on 0 loud 0 nerve 0;player on 1 part 1 nerve 40;player on 15 part 1 loud 0 nerve 80");
        // In BAR 0 alone one plays: 3 less each evening, behind 40 evenings at most 120.
        for (int bar = 0; bar < 12; bar++) {
            edge.bar(bar, bar == 0 ? 2 : 0);
        }
        Check.due("broken(1)", edge.broken(1), 14);
        Check.due("broken(2)", edge.broken(2), 27);
        OneShort last = Check.orchestra("player nerve 80;player on 1 part 1;bar 0 3");
        for (int bar = 1; bar < 12; bar++) {
            last.bar(bar, bar == 1 ? 1 : 0);
        }
        // 1 more and 3 less each evening.
        Check.due("behind 40", last.broken(0), 40);
        last.change(0, 4, 81);
        Check.due("behind 41", last.broken(0), Check.NONE);
    }

    private static void settles() {
        Check.due("settles() of none", new OneShort().settles(), 0);
        OneShort x = Check.orchestra("player on 5 nerve 99;player on 6 nerve 99");
        Check.due("settles() at once", x.settles(), 0);
        x.change(0, 4, 62);
        Check.due("settles() in 4 evenings", x.settles(), 4);
        Check.due("nothing changes", x.of(0, 4), 62);
        OneShort lone = Check.orchestra("player loud 9 nerve 0");
        Check.due("loud has to settle, too", lone.settles(), 9);
        OneShort slow = Check.orchestra("player on 3 nerve 60;player on 4 part 1 nerve 59;bar 0 3");
        for (int bar = 1; bar < 12; bar++) {
            slow.bar(bar, 0);
        }
        Check.due("behind 40", slow.settles(), 40);
        slow.change(1, 4, 58);
        Check.due("behind 41", slow.settles(), Check.NONE);
    }

    private static void kindFor() {
        OneShort x = Check.orchestra("player on 5;player on 6 part 2;bar 0 1;bar 3 0");
        Check.due("kindFor(0, 0)", x.kindFor(0, 0), 0);
        Check.due("a LATE one doesn't play alone", x.kindFor(0, 1), 1);
        Check.due("nothing changes", x.of(0, 0), 0);
        OneShort far = Check.orchestra("player on 5;player on 15");
        Check.due("kindFor of a lone one", far.kindFor(0, 1), 6);
        Check.due("all break", far.kindFor(0, 20), 0);
        Check.due("kindFor(0, 21)", far.kindFor(0, 21), Check.BEYOND);
        Check.due("kindFor(0, -1)", far.kindFor(0, -1), Check.BEYOND);
        Check.due("kindFor(2, 0)", far.kindFor(2, 0), Check.BEYOND);
        Check.due("kindFor(-1, 0)", far.kindFor(-1, 0), Check.BEYOND);
    }

    private static void seatFor() {
        OneShort x = Check.orchestra("player on 0;player on 12 loud 3");
        Check.due("seatFor(0, 0)", x.seatFor(0, 0), 0);
        Check.due("seatFor(0, 1)", x.seatFor(0, 1), 10);
        Check.due("seatFor(1, 20)", x.seatFor(1, 20), 0);
        Check.due("nothing changes", x.of(0, 1), 0);
        x.change(0, 0, 5);
        Check.due("a DEAF one", x.seatFor(0, 1), 10);
        x.change(1, 1, 2);
        x.change(1, 3, 1);
        Check.due("only on the same seat", x.seatFor(0, 1), 2);
        Check.due("seatFor(0, 21)", x.seatFor(0, 21), Check.BEYOND);
        Check.due("seatFor(0, -1)", x.seatFor(0, -1), Check.BEYOND);
        Check.due("seatFor(2, 0)", x.seatFor(2, 0), Check.BEYOND);
        Check.due("seatFor(-1, 0)", x.seatFor(-1, 0), Check.BEYOND);
    }
}

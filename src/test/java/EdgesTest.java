/** The edges of promises 2 to 35, one by one: the last values, what is answered where there is nothing, the least of several. */
public final class EdgesTest {
    private static final int ALL = 4095;

    public static void main(String[] args) {
        barsAndPlayers();
        seatsReached();
        barsAlone();
        changeAndSwap();
        setsOfEight();
        evenings();
        now();
        ahead();
        broken();
        settles();
        kindFor();
        seatFor();
        spare();
        fewest();
        lost();
        dearest();
        parts();
        tells();
        halves();
        who();
        nearest();
        links();
        bestSwap();
        loudFor();
        fits();
        kinds();
        strings();
        odds();
        Check.end();
    }

    private static OneShort inBars(String text, int... parts) {
        OneShort x = Check.orchestra(text);
        for (int bar = 0; bar < 12; bar++) {
            x.bar(bar, bar < parts.length ? parts[bar] : 0);
        }
        return x;
    }

    private static OneShort eight() {
        return Check.orchestra("player;player;player;player;player;player;player;player");
    }

    private static void barsAndPlayers() {
        OneShort x = new OneShort();
        for (int bar = 0; bar < 12; bar++) {
            Check.due("bar(" + bar + ", " + bar + ")", x.bar(bar, bar), 63);
        }
        for (int bar = 0; bar < 12; bar++) {
            Check.due("each BAR by itself", x.bar(bar, 63 - bar), bar);
            Check.due("barOf(" + bar + ", 0)", x.barOf(bar, 0), 63 - bar);
        }
        for (int p = 0; p < 7; p++) {
            Check.due("player", x.player(6 - p, 15), p);
        }
        x.image();
        Check.due("the 8th", x.player(6, 0), 7);
        Check.due("the 9th", x.player(6, 0), Check.FULL);
        x.undo();
        Check.due("the 8th once more, as another one", x.player(1, 15), 7);
        Check.due("its KIND", x.of(7, 0), 1);
        Check.due("its SEAT", x.of(7, 1), 15);
        x.change(7, 2, 5);
        x.change(7, 3, 9);
        x.change(7, 4, 99);
        x.undo();
        x.player(0, 0);
        int[] due = {0, 0, 0, 5, 50};
        for (int what = 0; what < 5; what++) {
            Check.due("a new one isn't like the one that was there", x.of(7, what), due[what]);
        }
    }

    private static void seatsReached() {
        Check.due("without PLAYERS", new OneShort().barOf(0, 2), 0);
        OneShort x = inBars("player on 7 loud 0", 1);
        int[] due = {0, 1, 3, 5, 7, 9, 11, 13, 15, 16};
        for (int loud = 0; loud < 10; loud++) {
            x.change(0, 3, loud);
            Check.due("SEATS reached with LOUD " + loud, x.barOf(0, 2), due[loud]);
            Check.due("where it doesn't PLAY", x.barOf(11, 2), 0);
        }
        x.change(0, 1, 0);
        Check.due("from SEAT 0", x.barOf(0, 2), 9);
        x.change(0, 1, 15);
        Check.due("from SEAT 15", x.barOf(0, 2), 9);
    }

    private static void barsAlone() {
        OneShort x = eight();
        for (int p = 1; p < 7; p++) {
            x.change(p, 3, 0);
        }
        x.change(7, 1, 15);
        Check.due("number 0 HEARS nobody, for 7 is far", x.of(0, 6), ALL);
        Check.due("all others HEAR number 0", x.of(6, 6), 0);
        x.swap(0, 7);
        Check.due("all others HEAR number 7", x.of(6, 6), 0);
        Check.due("number 7 HEARS nobody", x.of(7, 6), ALL);
        x.change(7, 3, 0);
        Check.due("nobody is LOUD here", x.of(6, 6), ALL);
        x.bar(0, 0);
        x.bar(11, 0);
        Check.due("just BARS in which it PLAYS", x.of(6, 6), ALL - 1 - 2048);
        OneShort two = inBars("player;player part 1", 1, 2, 3, 0, 0, 0, 0, 0, 0, 0, 3, 1);
        Check.due("in BARS 0 and 11 the other one doesn't PLAY", two.of(0, 6), 1 + 2048);
        Check.due("in BAR 1", two.of(1, 6), 2);
    }

    private static void changeAndSwap() {
        OneShort x = eight();
        int[] most = {6, 15, 5, 9, 99};
        int[] first = {0, 0, 0, 5, 50};
        for (int what = 0; what < 5; what++) {
            Check.due("what it was", x.change(7, what, most[what]), first[what]);
            Check.due("what it was", x.change(7, what, most[what]), most[what]);
            Check.due("of", x.of(7, what), most[what]);
            Check.due("of another one", x.of(6, what), first[what]);
        }
        Check.due("swap(7, 0)", x.swap(7, 0), 1);
        Check.due("SEAT of 0", x.of(0, 1), 15);
        Check.due("SEAT of 7", x.of(7, 1), 0);
        Check.due("nothing but SEATS", x.of(7, 0), 6);
        Check.due("one and the same SEAT", x.swap(7, 1), 0);
        Check.due("swap(0, 7)", x.swap(0, 7), 1);
        Check.due("SEAT of 7", x.of(7, 1), 15);
        Check.due("no finding", x.status(-1), 0);
    }

    /** Number 7 is in sets of PLAYERS, BAR 11 in sets of BARS. */
    private static void setsOfEight() {
        OneShort x = eight();
        Check.due("who PLAYS", x.barOf(11, 1), 255);
        Check.due("whom 7 HEARS", x.hearing(7, 11), 127);
        Check.due("whom 0 HEARS", x.hearing(0, 0), 254);
        Check.due("BARS", x.hears(7, 0), ALL);
        Check.due("who", x.who(ALL), 255);
        Check.due("spare", x.spare(), 255);
        Check.due("links", x.links(), 56);
        Check.due("lost(255)", x.lost(255), 12 * 5);
        Check.due("lost(254)", x.lost(254), 0);
        for (int p = 0; p < 8; p++) {
            x.change(p, 4, 0);
            Check.due("those of NERVE 0", x.now(2), (2 << p) - 1);
            Check.due("how many", x.count(2), p + 1);
        }
    }

    private static void evenings() {
        Check.due("go(1) of none", new OneShort().go(1), 0);
        OneShort x = inBars("player;player part 1 nerve 0", 1, 2, 3);
        Check.due("go(1)", x.go(1), 50 - 3 + 1 + 0 + 1);
        Check.due("go(2)", x.go(2), 44 + 1);
        Check.due("go(20)", x.go(20), 4 + 1);
        Check.due("EVENING", x.now(0), 23);
        Check.due("count(0)", x.count(0), 23);
        OneShort long1 = inBars("player nerve 0;player on 1 part 1 nerve 0", 3);
        Check.due("20 at once", long1.go(20), 40);
        Check.due("and one more", long1.go(1), 42);
    }

    private static void now() {
        OneShort none = new OneShort();
        for (int what = 0; what < 5; what++) {
            Check.due("now(" + what + ") of none", none.now(what), 0);
        }
        OneShort x = inBars("player on 15 loud 9 nerve 99;player on 0 loud 9 nerve 99", 0, 0, 0, 0, 0, 0, 0, 0, 0, 0, 0, 1);
        Check.due("NERVE", x.now(1), 198);
        Check.due("LOUD", x.now(3), 18);
        Check.due("HEARD in BAR 11, from both ends", x.now(4), 9 + 8 + 7 + 6 + 5 + 4 + 3 + 2 + 2 + 3 + 4 + 5 + 6 + 7 + 8 + 9);
        x.bar(11, 0);
        Check.due("HEARD in no BAR", x.now(4), 0);
        x.bar(0, 1);
        x.change(0, 3, 1);
        x.change(1, 3, 0);
        Check.due("HEARD at one SEAT in BAR 0", x.now(4), 1);
        x.change(0, 4, 1);
        Check.due("NERVE 1 isn't 0", x.now(2), 0);
        x.change(0, 4, 0);
        Check.due("NERVE 0", x.now(2), 1);
    }

    private static void ahead() {
        OneShort x = inBars("player;player on 1 part 1 nerve 99", 3);
        for (int n = 0; n <= 40; n++) {
            Check.due("ahead(0, " + n + ")", x.ahead(0, n), 50 + n);
        }
        Check.due("held", x.ahead(1, 40), 99);
        x.go(20);
        x.go(20);
        Check.due("as 40 EVENINGS do", x.of(0, 4), 90);
    }

    private static void broken() {
        // 1 more and 3 less each EVENING.
        OneShort x = inBars("player nerve 0;player on 1 part 1", 3, 1);
        int[] nerve = {0, 1, 2, 3, 4, 5, 78, 79, 80, 81, 82, 99};
        int[] due = {0, 1, 1, 2, 2, 3, 39, 40, 40, Check.NONE, Check.NONE, Check.NONE};
        for (int i = 0; i < due.length; i++) {
            x.change(0, 4, nerve[i]);
            Check.due("broken from " + nerve[i], x.broken(0), due[i]);
        }
        OneShort mended = inBars("player nerve 3;player on 1 part 1", 1, 3);
        Check.due("0 within an EVENING isn't 0 behind it", mended.broken(0), Check.NONE);
        mended.change(0, 4, 0);
        Check.due("0 now, though not behind an EVENING", mended.broken(0), 0);
    }

    private static void settles() {
        OneShort x = inBars("player on 3 nerve 99;player on 4 part 1 nerve 99", 3);
        for (int nerve = 99; nerve >= 59; nerve--) {
            x.change(1, 4, nerve);
            Check.due("settles from " + nerve, x.settles(), 99 - nerve);
        }
        x.change(1, 4, 58);
        Check.due("settles from 58", x.settles(), Check.NONE);
        OneShort idle = inBars("player loud 0 nerve 0;player loud 0 nerve 7");
        Check.due("nothing moves", idle.settles(), 0);
        for (int loud = 1; loud < 10; loud++) {
            idle.change(0, 3, loud);
            Check.due("LOUD moves", idle.settles(), loud);
        }
        idle.change(0, 4, 1);
        Check.due("only with NERVE 0", idle.settles(), 0);
        OneShort last = eight();
        for (int p = 0; p < 8; p++) {
            last.change(p, 3, 0);
            last.change(p, 4, 0);
        }
        Check.due("all without NERVE and LOUD", last.settles(), 0);
        last.change(7, 4, 36);
        Check.due("the last one's NERVE moves", last.settles(), 1);
        last.change(7, 4, 0);
        last.change(7, 3, 1);
        for (int bar = 0; bar < 12; bar++) {
            last.bar(bar, 0);
        }
        Check.due("the last one's LOUD moves", last.settles(), 1);
        OneShort round = inBars("player nerve 99;player part 1 nerve 99", 1, 3, 3, 3);
        Check.due("3 less and 3 more is as it was", round.settles(), 0);
    }

    private static void kindFor() {
        // Each BAR that one PLAYS alone costs: who PLAYS in fewest has most, and of several the least KIND.
        String far = "sleeper on 0;player on 15 part 5";
        Check.due("nothing to PLAY", inBars(far).kindFor(0, 20), 0);
        Check.due("BAR 0 alone: not as LATE", inBars(far, 1).kindFor(0, 1), 1);
        Check.due("BAR 3 alone: not as MARRIED", inBars(far, 0, 0, 0, 1).kindFor(0, 1), 3);
        Check.due("behind no EVENING", inBars(far, 0, 0, 0, 1).kindFor(0, 0), 0);
        OneShort farOfPart0 = inBars("player on 0;player on 15", 0, 0, 0, 0, 1);
        Check.due("BAR 4 alone, and another one of PART 0: not as SLEEPER", farOfPart0.kindFor(0, 1), 6);
        // Each BAR that one PLAYS in company is worth 1.
        Check.due("PART 1 is company: as DOUBLING", inBars("player;player part 1", 3, 2).kindFor(0, 1), 2);
        OneShort brave = inBars("player part 3 nerve 80;player part 1", 2, 2, 2, 2, 2, 2, 2, 2, 2, 2, 2, 10);
        Check.due("NERVE 80: as EXTRA", brave.kindFor(0, 1), 4);
        brave.change(0, 4, 78);
        Check.due("NERVE 78 isn't enough", brave.kindFor(0, 1), 0);
        Check.due("its KIND stays", brave.of(0, 0), 0);
    }

    private static void seatFor() {
        OneShort x = inBars("player on 3;player on 15 part 1 loud 1", 3);
        Check.due("SEAT 15 alone", x.seatFor(0, 1), 15);
        Check.due("behind no EVENING all are alike", x.seatFor(0, 0), 0);
        x.change(1, 1, 0);
        Check.due("SEAT 0 alone", x.seatFor(0, 20), 0);
        x.change(1, 1, 9);
        x.change(1, 3, 3);
        Check.due("of several the least", x.seatFor(0, 20), 7);
        x.change(1, 3, 0);
        Check.due("none is better", x.seatFor(0, 20), 0);
        OneShort deaf = inBars("deaf on 3;player on 15 part 1 loud 9;player on 2 part 1 loud 9", 3);
        Check.due("the least from which a DEAF one HEARS one of them", deaf.seatFor(0, 1), 0);
        deaf.change(2, 3, 0);
        Check.due("and with one of them silent", deaf.seatFor(0, 1), 7);
    }

    private static void spare() {
        Check.due("none", new OneShort().spare(), 0);
        OneShort x = inBars("player on 7 loud 9;player on 7 loud 8;player on 15 loud 1", 1);
        Check.due("one that is less LOUD, one just as LOUD as what is HEARD", x.spare(), 6);
        x.change(2, 3, 2);
        Check.due("by 1 more at one SEAT alone", x.spare(), 2);
        x.bar(0, 0);
        Check.due("all, where nothing is HEARD", x.spare(), 7);
        x.bar(11, 1);
        Check.due("in BAR 11 alone", x.spare(), 2);
        x.change(1, 3, 9);
        Check.due("each alone, not both", x.spare(), 3);
        Check.due("one alone", inBars("player", 1).spare(), 0);
        Check.due("one alone that never PLAYS", inBars("player", 2).spare(), 1);
        OneShort silent = inBars("player on 3;player on 3 part 1", 1, 1, 1);
        Check.due("just as LOUD, but it doesn't PLAY", silent.spare(), 2);
        Check.due("so the other one is enough", silent.fewest(), 1);
        Check.due("and lost where it was", silent.lost(1), 3 * 8);
    }

    private static void fewest() {
        Check.due("none", new OneShort().fewest(), 0);
        OneShort x = new OneShort();
        for (int p = 0; p < 8; p++) {
            x.player(0, 2 * p);
            x.change(p, 3, 1);
            Check.due("all are needed", x.fewest(), (2 << p) - 1);
        }
        for (int p = 0; p < 8; p++) {
            x.change(p, 1, 15);
        }
        Check.due("one is enough, the least", x.fewest(), 1);
        x.change(7, 3, 2);
        Check.due("the loudest", x.fewest(), 128);
        OneShort pairs = inBars("player;player;player on 15;player on 15", 1);
        Check.due("of several the least", pairs.fewest(), 5);
        pairs.change(0, 3, 4);
        Check.due("fewest first, then least", pairs.fewest(), 6);
        OneShort once = inBars("player on 15 loud 1;player on 15 part 1", 2, 2, 2, 2, 2, 2, 2, 2, 2, 2, 2, 3);
        Check.due("never needed", once.fewest(), 2);
        once.bar(11, 1);
        Check.due("needed at one SEAT in one BAR", once.fewest(), 3);
        Check.due("there it would be lost", once.lost(1), 1);
        OneShort fewer = inBars("player on 4 loud 3;player on 10 loud 3;player on 7 loud 9;player on 4 loud 4", 1);
        Check.due("one of a greater number rather than two", fewer.fewest(), 4);
    }

    private static void lost() {
        OneShort x = inBars("player on 7 loud 9;player on 8 part 1 loud 9", 63, 63, 63, 63, 63, 63, 63, 63, 63, 63, 63, 63);
        Check.due("everywhere", x.lost(3), 192);
        Check.due("where one is louder", x.lost(1), 12 * 8);
        Check.due("where the other one is louder", x.lost(2), 12 * 8);
        Check.due("nobody", x.lost(0), 0);
        x.bar(0, 1);
        Check.due("in BAR 0 at each SEAT", x.lost(1), 11 * 8 + 16);
        Check.due("in BAR 0 nothing", x.lost(2), 11 * 8);
        Check.due("of none", new OneShort().lost(0), 0);
        Check.due("of eight all", eight().lost(255), 12 * 5);
    }

    private static void dearest() {
        OneShort x = eight();
        Check.due("nobody is dear: the least", x.dearest(), 0);
        x.change(7, 3, 6);
        Check.due("the last", x.dearest(), 7);
        x.change(3, 3, 6);
        Check.due("two alike, neither dear alone", x.dearest(), 0);
        x.change(5, 1, 15);
        Check.due("the one on another SEAT", x.dearest(), 5);
        Check.due("of several the least", inBars("player on 7 loud 0;player on 0;player on 15", 1).dearest(), 1);
        Check.due("one", inBars("player", 0).dearest(), 0);
        OneShort seats = inBars("player on 0 loud 2;player on 14 loud 2;player part 1 loud 1", 1, 2, 2, 2);
        Check.due("3 SEATS rather than 2, in one BAR; or 1 in three", seats.dearest(), 1);
        seats.bar(4, 2);
        Check.due("SEATS and BARS together", seats.dearest(), 2);
    }

    private static void parts() {
        OneShort x = inBars("player;player part 1;player part 1", 1, 2, 3, 0, 0, 0, 0, 0, 0, 0, 1, 2);
        Check.due("BARS 0 and 11 are BARS", x.parts(0, 1), 1 + 2 + 1024 + 2048);
        Check.due("the other way round", x.parts(1, 0), 1 + 2 + 1024 + 2048);
        Check.due("none", x.parts(1, 2), 0);
        for (int bar = 0; bar < 12; bar++) {
            x.bar(bar, 1);
        }
        Check.due("all", x.parts(2, 0), ALL);
    }

    private static void tells() {
        Check.due("none", new OneShort().tells(), 0);
        Check.due("one", inBars("player").tells(), 0);
        Check.due("two who never PLAY", inBars("player;player part 1").tells(), Check.NONE);
        OneShort x = inBars("player;player part 1", 3, 3, 3, 3, 3, 3, 3, 3, 3, 3, 3, 2);
        Check.due("BAR 11", x.tells(), 2048);
        x.bar(0, 1);
        Check.due("BAR 0, the least", x.tells(), 1);
        x.player(0, 9);
        Check.due("a third one like the first", x.tells(), Check.NONE);
        OneShort eight = Check.orchestra("player;player part 1;player part 2;player part 3;player part 4;late;player part 5;player part 5");
        for (int bar = 0; bar < 12; bar++) {
            eight.bar(bar, bar < 6 ? 1 << bar : 1);
        }
        Check.due("the last two of eight are alike", eight.tells(), Check.NONE);
        eight.change(7, 0, 2);
        Check.due("now they aren't, and six BARS tell all", eight.tells(), 63);
        String four = "player;player part 1;player part 2;player part 3";
        Check.due("two BARS rather than the first three", inBars(four, 1, 2, 4, 0, 0, 0, 0, 0, 0, 0, 3, 5).tells(), 1024 + 2048);
        Check.due("three, if there aren't two", inBars(four, 1, 2, 4, 8).tells(), 7);
        Check.due("of several the least", inBars(four, 0, 3, 5, 6, 9).tells(), 2 + 4);
    }

    private static void halves() {
        Check.due("none", new OneShort().halves(), 0);
        Check.due("one", inBars("player", 0, 1).halves(), 0);
        Check.due("two", inBars("player;player part 1", 0, 3, 0, 2, 1).halves(), 3);
        Check.due("BAR 11", inBars("player;player part 1", 0, 0, 0, 0, 0, 0, 0, 0, 0, 0, 3, 1).halves(), 11);
        String eight = "player;player;player;player part 1;player part 1;player part 1;player part 1;player part 2";
        Check.due("5 and 3 rather than 1 and 7", inBars(eight, 4, 6).halves(), 1);
        Check.due("3 and 5 is as near as 5 and 3", inBars(eight, 4, 1, 6).halves(), 1);
        Check.due("4 and 4 is nearest", inBars(eight, 4, 1, 6, 2).halves(), 3);
        Check.due("and the least of these", inBars(eight, 4, 1, 6, 5, 2).halves(), 3);
    }

    private static void who() {
        OneShort x = inBars("player;late;player part 1;married part 1", 1, 0, 0, 0, 0, 0, 0, 0, 0, 0, 0, 1);
        Check.due("who(1 + 2048)", x.who(2049), 1);
        Check.due("not with more of them", x.who(1), 0);
        Check.due("nor with less", x.who(4095), 0);
        Check.due("in BAR 11 alone", x.who(2048), 2);
        Check.due("in none", x.who(0), 12);
        Check.due("of none", new OneShort().who(0), 0);
    }

    private static void nearest() {
        OneShort x = inBars("player on 3;player on 15 part 1 loud 1", 2);
        Check.due("SEAT 15 alone", x.nearest(0, 1), 15);
        x.change(1, 1, 0);
        Check.due("SEAT 0 alone", x.nearest(0, 1), 0);
        x.change(1, 1, 12);
        x.change(1, 3, 9);
        Check.due("of several the least", x.nearest(0, 1), 4);
        x.change(0, 0, 5);
        Check.due("a DEAF one from below", x.nearest(0, 1), 4);
        x.change(1, 1, 2);
        Check.due("from SEAT 0", x.nearest(0, 1), 0);
        x.bar(0, 1);
        Check.due("one that never PLAYS", x.nearest(0, 1), 0);
        Check.due("its SEAT stays", x.of(0, 1), 3);
    }

    private static void links() {
        Check.due("none", new OneShort().links(), 0);
        Check.due("one", inBars("player", 1).links(), 0);
        OneShort x = inBars("player on 0 loud 9;player on 8 loud 8", 0, 0, 0, 0, 0, 0, 0, 0, 0, 0, 0, 1);
        Check.due("one way", x.links(), 1);
        x.change(1, 3, 9);
        Check.due("both ways", x.links(), 2);
        x.change(0, 1, 0);
        x.change(1, 0, 5);
        Check.due("a DEAF one above", x.links(), 1);
        x.bar(11, 0);
        Check.due("in no BAR", x.links(), 0);
    }

    private static void bestSwap() {
        Check.due("none", new OneShort().bestSwap(), Check.NONE);
        Check.due("one", inBars("player", 1).bestSwap(), Check.NONE);
        Check.due("two", inBars("player;player", 1).bestSwap(), 1);
        OneShort x = eight();
        Check.due("of several the least pair", x.bestSwap(), 1);
        // One that is LOUD, but on SEAT 0 where nobody else is.
        for (int p = 0; p < 8; p++) {
            x.change(p, 3, p == 7 ? 1 : 0);
            x.change(p, 1, p == 7 ? 0 : 15);
        }
        Check.due("it comes to all but one: of several the least", x.bestSwap(), 7);
        // From SEAT 8, where 6 is, those on SEAT 0 and those on SEAT 15 HEAR it.
        x.change(7, 3, 9);
        for (int p = 0; p < 7; p++) {
            x.change(p, 1, p < 3 ? 0 : p == 6 ? 8 : 15);
        }
        Check.due("8 times the lesser number and the other one", x.bestSwap(), 8 * 6 + 7);
        Check.due("their SEATS stay", x.of(6, 1), 8);
    }

    private static void loudFor() {
        OneShort x = inBars("player on 0 loud 0;extra on 7 part 1 loud 9 nerve 80", 1);
        for (int seat = 0; seat < 16; seat++) {
            Check.due("at SEAT " + seat, x.loudFor(0, seat, 0), seat < 9 ? seat + 1 : Check.NONE);
            Check.due("in any BAR", x.loudFor(1, seat, 11), Math.abs(seat - 7) + 1);
        }
        x.change(1, 4, 79);
        Check.due("it doesn't PLAY any more", x.loudFor(1, 7, 11), Check.NONE);
        x.change(0, 1, 15);
        Check.due("from above", x.loudFor(0, 7, 0), 9);
        Check.due("too far", x.loudFor(0, 6, 0), Check.NONE);
    }

    private static void fits() {
        OneShort x = inBars("player part 4;player on 1 part 5", 33);
        Check.fill(x, 0, 8);
        Check.due("a sheet without numbers: all", x.fits(0, 0), 63);
        Check.fill(x, 0, 8, 50);
        Check.due("NERVE now", x.fits(0, 0), 63);
        Check.fill(x, 0, 8, 51);
        Check.due("NERVE now isn't that", x.fits(0, 0), 0);
        Check.fill(x, 0, 8, -1, 51);
        Check.due("behind one EVENING, PARTS 0 and 5", x.fits(0, 0), 33);
        Check.fill(x, 0, 8, -1, 50, 50);
        Check.due("behind two EVENINGS, all others", x.fits(0, 0), 30);
        x.sheet(0, 16, 40);
        for (int i = 0; i < 40; i++) {
            x.write(0, i, -1);
        }
        Check.due("40 numbers, any", x.fits(0, 0), 63);
        x.write(0, 39, 89);
        Check.due("behind 39 EVENINGS", x.fits(0, 0), 33);
        x.write(0, 39, 90);
        Check.due("behind 39 EVENINGS isn't that", x.fits(0, 0), 0);
        x.write(0, 39, -1);
        x.write(0, 38, 50);
        Check.due("behind 38 EVENINGS", x.fits(0, 0), 30);
        x.write(0, 38, -2);
        Check.due("-2 isn't any", x.fits(0, 0), 0);
        OneShort wed = inBars("player part 3;married on 1 part 2", 5);
        Check.fill(wed, 0, 8, -1, 51);
        Check.due("of PART 0, for then the MARRIED one PLAYS, too", wed.fits(0, 0), 1);
        Check.fill(wed, 0, 8, -1, 47);
        Check.due("of PART 2, alone", wed.fits(0, 0), 4);
        Check.fill(wed, 0, 8, -1, 50);
        Check.due("of all others, not PLAYING", wed.fits(0, 0), 63 - 1 - 4);
    }

    private static void kinds() {
        OneShort x = inBars("player part 4;player on 1 part 5", 0, 0, 0, 48, 16, 32);
        // BARS 3 and 5 are in company and worth 1, BAR 4 is alone and costs 3.
        Check.fill(x, 3, 32, 50, 49);
        Check.due("in BARS 3, 4 and 5", x.kinds(3, 0), 4);
        Check.fill(x, 3, 32, 50, 48);
        Check.due("in BARS 3 and 4", x.kinds(3, 0), 1 + 2 + 32);
        Check.fill(x, 3, 32, -1, 51);
        Check.due("in BAR 3", x.kinds(3, 0), 64);
        Check.fill(x, 3, 32, 50, 50, 50);
        Check.due("in none", x.kinds(3, 0), 8 + 16);
        Check.fill(x, 3, 32, -1, 0);
        Check.due("as no KIND", x.kinds(3, 0), 0);
        x.change(0, 4, 80);
        Check.fill(x, 3, 32, 80, 77);
        Check.due("alone in BAR 0 with NERVE 80", x.kinds(3, 0), 16);
        Check.fill(x, 3, 8);
        Check.due("a sheet without numbers: all", x.kinds(3, 1), 127);
    }

    private static void strings() {
        Check.due("of none", new OneShort().strings(12), 0);
        Check.due("strings(12)", eight().strings(12), hits(12));
        OneShort x = eight();
        int before = 0;
        for (int n = 1; n <= 12; n++) {
            Check.due("strings(1)", x.strings(1), hits(n) - before);
            Check.due("EVENING", x.now(0), n);
            before = hits(n);
        }
        // The rests from z = 1 on are 14, 0, 4, 11, 15, 4, 6, 14.
        OneShort five = inBars("player loud 7;player;player;player;player loud 7");
        Check.due("number 4 is the last that there is", five.strings(8), 3);
        Check.due("NERVE 0", five.now(2), 17);
        Check.due("hit by the second, 7 EVENINGS", five.of(0, 3), 0);
        Check.due("hit by the third, 6 EVENINGS", five.of(4, 3), 1);
        OneShort four = inBars("player;player;player;player");
        Check.due("there is no number 4", four.strings(8), 1);
        Check.due("NERVE 0", four.now(2), 1);
        OneShort lifted = inBars("player;player on 1 part 1", 3);
        Check.due("strings(2)", lifted.strings(2), 1);
        Check.due("hit, and an EVENING behind it", lifted.of(0, 4), 1);
        Check.due("not hit, two EVENINGS", lifted.of(1, 4), 52);
        Check.due("it isn't less LOUD", lifted.of(0, 3), 5);
    }

    /** How many of n draws from z = 1 on have a rest below 8. */
    private static int hits(int n) {
        int z = 1;
        int hits = 0;
        for (int i = 0; i < n; i++) {
            z = z * 1103515245 + 12345;
            hits += (z >>> 8) % 16 < 8 ? 1 : 0;
        }
        return hits;
    }

    private static void odds() {
        OneShort x = new OneShort();
        for (int players = 0; players <= 8; players++) {
            for (int n = 0; n <= 14; n++) {
                long above = 1;
                long below = 1;
                for (int i = 0; i < n; i++) {
                    above *= 16 - players;
                    below *= 16;
                }
                while (above % 2 == 0 && below % 2 == 0) {
                    above /= 2;
                    below /= 2;
                }
                Check.due("odds(" + n + ", 0) of " + players, x.odds(n, 0), above);
                Check.due("odds(" + n + ", 1) of " + players, x.odds(n, 1), below);
            }
            x.player(0, 0);
        }
    }
}

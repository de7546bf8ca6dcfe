import java.util.function.Supplier;
import java.util.function.ToLongFunction;

/**
 * What is refused for what there is or isn't (no PLAYERS, too many, nothing kept, a MISSING sheet), and which
 * finding is told where a call meets two: it is counted, as what it is, and all stands as it stood.
 */
public final class RefusedTest {
    public static void main(String[] args) {
        noPlayers();
        onePlayer();
        fullOrchestra();
        fullTape();
        noneOfTheKind();
        noneInTime();
        spots();
        missingSheets();
        sheetsBySize();
        copies();
        nothingKept();
        oddsInLongs();
        countedEver();
        onlyAsked();
        faults();
        Check.end();
    }

    private static void beyond(String call, Supplier<OneShort> made, ToLongFunction<OneShort> act) {
        Twins.refused(call, made, act, Check.BEYOND);
    }

    private static void none(String call, Supplier<OneShort> made, ToLongFunction<OneShort> act) {
        Twins.refused(call, made, act, Check.NONE);
    }

    private static void missing(String call, Supplier<OneShort> made, ToLongFunction<OneShort> act) {
        Twins.refused(call, made, act, Check.MISSING);
    }

    private static void noPlayers() {
        Supplier<OneShort> empty = OneShort::new;
        beyond("of(0, 0)", empty, x -> x.of(0, 0));
        beyond("change(0, 0, 0)", empty, x -> x.change(0, 0, 0));
        beyond("swap(0, 1)", empty, x -> x.swap(0, 1));
        beyond("sound(0, 0, 0)", empty, x -> x.sound(0, 0, 0));
        beyond("hears(0, 1)", empty, x -> x.hears(0, 1));
        beyond("hearing(0, 0)", empty, x -> x.hearing(0, 0));
        beyond("ahead(0, 0)", empty, x -> x.ahead(0, 0));
        beyond("broken(0)", empty, x -> x.broken(0));
        beyond("kindFor(0, 0)", empty, x -> x.kindFor(0, 0));
        beyond("seatFor(0, 0)", empty, x -> x.seatFor(0, 0));
        beyond("lost(1)", empty, x -> x.lost(1));
        beyond("parts(0, 1)", empty, x -> x.parts(0, 1));
        beyond("nearest(0, 1)", empty, x -> x.nearest(0, 1));
        beyond("loudFor(0, 0, 0)", empty, x -> x.loudFor(0, 0, 0));
        beyond("hold(0, 0)", empty, x -> x.hold(0, 0));
        none("dearest()", empty, OneShort::dearest);
        none("bestSwap()", empty, OneShort::bestSwap);
    }

    private static void onePlayer() {
        beyond("swap(0, 0)", Twins::one, x -> x.swap(0, 0));
        beyond("swap(0, 1)", Twins::one, x -> x.swap(0, 1));
        beyond("hears(0, 0)", Twins::one, x -> x.hears(0, 0));
        beyond("parts(0, 0)", Twins::one, x -> x.parts(0, 0));
        beyond("nearest(0, 0)", Twins::one, x -> x.nearest(0, 0));
        beyond("lost(2)", Twins::one, x -> x.lost(2));
        none("bestSwap()", Twins::one, OneShort::bestSwap);
        beyond("swap(2, 2)", Twins::rich, x -> x.swap(2, 2));
        beyond("hears(1, 1)", Twins::rich, x -> x.hears(1, 1));
        beyond("parts(2, 2)", Twins::rich, x -> x.parts(2, 2));
        beyond("nearest(0, 0)", Twins::rich, x -> x.nearest(0, 0));
    }

    private static void fullOrchestra() {
        Twins.refused("player(0, 0)", Twins::full, x -> x.player(0, 0), Check.FULL);
        Twins.refused("player(6, 15)", Twins::full, x -> x.player(6, 15), Check.FULL);
        beyond("player(7, 0)", Twins::full, x -> x.player(7, 0));
        beyond("player(-1, 0)", Twins::full, x -> x.player(-1, 0));
        beyond("player(0, 16)", Twins::full, x -> x.player(0, 16));
        beyond("player(0, -1)", Twins::full, x -> x.player(0, -1));
        beyond("of(8, 0)", Twins::full, x -> x.of(8, 0));
        beyond("change(8, 0, 0)", Twins::full, x -> x.change(8, 0, 0));
        beyond("swap(7, 8)", Twins::full, x -> x.swap(7, 8));
        beyond("swap(8, 7)", Twins::full, x -> x.swap(8, 7));
        beyond("sound(8, 0, 0)", Twins::full, x -> x.sound(8, 0, 0));
        beyond("hears(7, 8)", Twins::full, x -> x.hears(7, 8));
        beyond("hears(8, 7)", Twins::full, x -> x.hears(8, 7));
        beyond("hearing(8, 0)", Twins::full, x -> x.hearing(8, 0));
        beyond("ahead(8, 0)", Twins::full, x -> x.ahead(8, 0));
        beyond("broken(8)", Twins::full, x -> x.broken(8));
        beyond("kindFor(8, 0)", Twins::full, x -> x.kindFor(8, 0));
        beyond("seatFor(8, 0)", Twins::full, x -> x.seatFor(8, 0));
        beyond("lost(256)", Twins::full, x -> x.lost(256));
        beyond("parts(7, 8)", Twins::full, x -> x.parts(7, 8));
        beyond("nearest(8, 7)", Twins::full, x -> x.nearest(8, 7));
        beyond("loudFor(8, 0, 0)", Twins::full, x -> x.loudFor(8, 0, 0));
        beyond("hold(0, 8)", Twins::full, x -> x.hold(0, 8));
    }

    private static void fullTape() {
        for (int n = 1; n <= 4; n++) {
            int bytes = n;
            Twins.refused("feed(0, " + n + ")", Twins::full, x -> x.feed(0, bytes), Check.FULL);
        }
        for (int n : new int[] {0, 5, -1, Integer.MIN_VALUE, Integer.MAX_VALUE}) {
            beyond("feed(0, " + n + ")", Twins::full, x -> x.feed(0, n));
        }
        // With 118 bytes two more are taken and three are not, not even in part.
        Supplier<OneShort> nearlyFull = () -> tapeOf(118);
        Twins.refused("feed(.., 3)", nearlyFull, x -> x.feed(0x206c61, 3), Check.FULL);
        Twins.refused("feed(.., 4)", nearlyFull, x -> x.feed(0x206c6174, 4), Check.FULL);
        Check.due("feed(.., 2)", nearlyFull.get().feed(0x2020, 2), 120);
        Check.due("feed(.., 1)", nearlyFull.get().feed(0x20, 1), 119);
        Check.due("feed(.., 4)", tapeOf(116).feed(0, 4), 120);
        Check.due("feed(.., 3)", tapeOf(117).feed(0, 3), 120);
    }

    private static OneShort tapeOf(int n) {
        OneShort x = new OneShort();
        x.feed(0x6c617465, 4);
        for (int i = 5; i <= n; i++) {
            Check.due("feed", x.feed(' ', 1), i);
        }
        return x;
    }

    private static void noneOfTheKind() {
        none("tells() of two alike", () -> Check.orchestra("player;deaf on 3"), OneShort::tells);
        none("tells() of two who never play", () -> Check.orchestra("married;player part 1;extra"), OneShort::tells);
        Supplier<OneShort> late = () -> Check.orchestra("late on 5;player;bar 4 62");
        none("loudFor(0, 5, 2), it doesn't play", late, x -> x.loudFor(0, 5, 2));
        none("loudFor(0, 5, 4), its part isn't of the bar", late, x -> x.loudFor(0, 5, 4));
        none("loudFor(0, 14, 3), too far", late, x -> x.loudFor(0, 14, 3));
        none("loudFor(1, 9, 0), too far", late, x -> x.loudFor(1, 9, 0));
        beyond("loudFor(0, 16, 2), BEYOND is told first", late, x -> x.loudFor(0, 16, 2));
        beyond("loudFor(0, -1, 4), BEYOND is told first", late, x -> x.loudFor(0, -1, 4));
        beyond("loudFor(0, 14, 12), BEYOND is told first", late, x -> x.loudFor(0, 14, 12));
        beyond("loudFor(2, 15, 0)", late, x -> x.loudFor(2, 15, 0));
    }

    private static void noneInTime() {
        Supplier<OneShort> silent = () -> Check.orchestra("late part 1;bar 3 2;bar 4 1");
        Supplier<OneShort> slow = () -> inTwoBars("player on 3 nerve 58;player on 4 part 1 nerve 58", 3, 0);
        Supplier<OneShort> falling = () -> inTwoBars("player nerve 81;player on 1 part 1", 3, 1);
        none("broken(0), it falls by 2 from 81 on", falling, x -> x.broken(0));
        none("settles(), 99 from 58 on", slow, OneShort::settles);
        none("broken(0), it rises", slow, x -> x.broken(0));
        beyond("broken(1)", silent, x -> x.broken(1));
    }

    /** BARS 0 and 1 with these PARTS, all others without any. */
    private static OneShort inTwoBars(String text, int first, int second) {
        OneShort x = Check.orchestra(text);
        for (int bar = 0; bar < 12; bar++) {
            x.bar(bar, bar == 0 ? first : bar == 1 ? second : 0);
        }
        return x;
    }

    private static void spots() {
        missing("as(3, 0), what it held was taken away", Twins::rich, x -> x.as(3, 0));
        missing("as(5, 6), it never held anything", Twins::rich, x -> x.as(5, 6));
        missing("as(0, 0) without PLAYERS", OneShort::new, x -> x.as(0, 0));
        beyond("as(5, 7), BEYOND is told ahead of MISSING", Twins::rich, x -> x.as(5, 7));
        beyond("as(5, -1), BEYOND is told ahead of MISSING", Twins::rich, x -> x.as(5, -1));
        beyond("as(0, 7), BEYOND is told ahead of KIND", Twins::rich, x -> x.as(0, 7));
        beyond("as(0, -1), BEYOND is told ahead of KIND", Twins::rich, x -> x.as(0, -1));
        beyond("as(10, 0)", Twins::rich, x -> x.as(10, 0));
        Twins.refused("as(0, 6), LATE is no SLEEPER", Twins::rich, x -> x.as(0, 6), Check.KIND);
        Twins.refused("as(0, 2), LATE is no DOUBLING", Twins::rich, x -> x.as(0, 2), Check.KIND);
        Twins.refused("as(9, 1), DEAF is no LATE", Twins::rich, x -> x.as(9, 1), Check.KIND);
    }

    private static void missingSheets() {
        missing("fits(3, 0)", Twins::rich, x -> x.fits(3, 0));
        missing("kinds(3, 0)", Twins::rich, x -> x.kinds(3, 0));
        missing("write(3, 0, 0)", Twins::rich, x -> x.write(3, 0, 0));
        missing("load(3)", Twins::rich, x -> x.load(3));
        missing("judge(3)", Twins::rich, x -> x.judge(3));
        missing("fits(3, 3), MISSING is told ahead of no such PLAYER", Twins::rich, x -> x.fits(3, 3));
        missing("fits(3, -1), MISSING is told ahead of no such PLAYER", Twins::rich, x -> x.fits(3, -1));
        missing("kinds(3, 3), MISSING is told ahead of no such PLAYER", Twins::rich, x -> x.kinds(3, 3));
        missing("kinds(3, -1), MISSING is told ahead of no such PLAYER", Twins::rich, x -> x.kinds(3, -1));
        missing("write(3, 40, 0), MISSING is told ahead of no such number", Twins::rich, x -> x.write(3, 40, 0));
        missing("write(3, -1, 0), MISSING is told ahead of no such number", Twins::rich, x -> x.write(3, -1, 0));
        beyond("fits(4, 3), no such sheet", Twins::rich, x -> x.fits(4, 3));
        beyond("kinds(-1, -1), no such sheet", Twins::rich, x -> x.kinds(-1, -1));
        beyond("write(4, 40, 0), no such sheet", Twins::rich, x -> x.write(4, 40, 0));
        Supplier<OneShort> noPlayers = () -> without(2, 16, 0);
        beyond("fits(2, 0), a sheet and no PLAYERS", noPlayers, x -> x.fits(2, 0));
        beyond("kinds(2, 0), a sheet and no PLAYERS", noPlayers, x -> x.kinds(2, 0));
        beyond("write(2, 0, 0), a sheet without numbers", noPlayers, x -> x.write(2, 0, 0));
        Supplier<OneShort> takenAway = () -> without(1, 0, 12);
        missing("load(1), it is MISSING again", takenAway, x -> x.load(1));
        missing("write(1, 0, 0), it is MISSING again", takenAway, x -> x.write(1, 0, 0));
    }

    /** Without PLAYERS, and with a sheet as it is told behind another one of 8 bits. */
    private static OneShort without(int s, int bits, int n) {
        OneShort x = new OneShort();
        x.sheet(s, 8, 12);
        x.sheet(s, bits, n);
        return x;
    }

    private static void sheetsBySize() {
        for (int n : new int[] {-1, Integer.MIN_VALUE}) {
            for (int bits : new int[] {0, 8, 16, 32}) {
                Twins.refused("sheet(1, " + bits + ", " + n + ")", Twins::rich, x -> x.sheet(1, bits, n), Check.SIZE);
            }
            beyond("sheet(4, 8, " + n + "), BEYOND is told ahead of SIZE", Twins::rich, x -> x.sheet(4, 8, n));
            beyond("sheet(-1, 0, " + n + "), BEYOND is told ahead of SIZE", Twins::rich, x -> x.sheet(-1, 0, n));
            beyond("sheet(1, 9, " + n + "), BEYOND is told ahead of SIZE", Twins::rich, x -> x.sheet(1, 9, n));
        }
        for (int n : new int[] {41, Integer.MAX_VALUE}) {
            for (int bits : new int[] {0, 8, 16, 32}) {
                beyond("sheet(1, " + bits + ", " + n + ")", Twins::rich, x -> x.sheet(1, bits, n));
            }
        }
        for (int bits : new int[] {-8, -1, 1, 4, 7, 9, 15, 17, 24, 31, 33, 64, Integer.MIN_VALUE, Integer.MAX_VALUE}) {
            beyond("sheet(1, " + bits + ", 3)", Twins::rich, x -> x.sheet(1, bits, 3));
        }
        beyond("sheet(4, 0, 0)", Twins::rich, x -> x.sheet(4, 0, 0));
    }

    /** Of rich() sheet 0 has 3 numbers of 8 bits, 1 has 12 of 16, 2 has 4 of 8, 3 is MISSING. */
    private static void copies() {
        missing("copy(3, 0, 0, 0, 0)", Twins::rich, x -> x.copy(3, 0, 0, 0, 0));
        missing("copy(0, 0, 3, 0, 0)", Twins::rich, x -> x.copy(0, 0, 3, 0, 0));
        missing("copy(3, 0, 3, 0, 0)", Twins::rich, x -> x.copy(3, 0, 3, 0, 0));
        missing("copy(3, 0, 0, 0, 99), MISSING is told first", Twins::rich, x -> x.copy(3, 0, 0, 0, 99));
        missing("copy(0, -1, 3, 0, 0), MISSING is told first", Twins::rich, x -> x.copy(0, -1, 3, 0, 0));
        missing("copy(1, 0, 3, 0, 1), MISSING is told ahead of KIND", Twins::rich, x -> x.copy(1, 0, 3, 0, 1));
        missing("copy(3, 0, 1, 0, -1), MISSING is told ahead of KIND", Twins::rich, x -> x.copy(3, 0, 1, 0, -1));
        beyond("copy(4, 0, 3, 0, 0), no such sheet is told first", Twins::rich, x -> x.copy(4, 0, 3, 0, 0));
        beyond("copy(3, 0, 4, 0, 0), no such sheet is told first", Twins::rich, x -> x.copy(3, 0, 4, 0, 0));
        beyond("copy(-1, 0, 3, 0, 0), no such sheet is told first", Twins::rich, x -> x.copy(-1, 0, 3, 0, 0));
        beyond("copy(3, 0, -1, 0, 0), no such sheet is told first", Twins::rich, x -> x.copy(3, 0, -1, 0, 0));
        kind("copy(0, 0, 1, 0, 1)", x -> x.copy(0, 0, 1, 0, 1));
        kind("copy(1, 0, 0, 0, 1)", x -> x.copy(1, 0, 0, 0, 1));
        kind("copy(1, 0, 2, 0, 0), though none should come", x -> x.copy(1, 0, 2, 0, 0));
        kind("copy(0, 0, 1, 0, 4), KIND is told ahead of too many", x -> x.copy(0, 0, 1, 0, 4));
        kind("copy(0, -1, 1, 0, 1), KIND is told ahead of below 0", x -> x.copy(0, -1, 1, 0, 1));
        kind("copy(0, 0, 1, -1, 1), KIND is told ahead of below 0", x -> x.copy(0, 0, 1, -1, 1));
        kind("copy(0, 0, 1, 0, -1), KIND is told ahead of below 0", x -> x.copy(0, 0, 1, 0, -1));
        beyond("copy(0, 0, 2, 0, 4), the one has but 3", Twins::rich, x -> x.copy(0, 0, 2, 0, 4));
        beyond("copy(2, 0, 0, 0, 4), the other one has but 3", Twins::rich, x -> x.copy(2, 0, 0, 0, 4));
        beyond("copy(2, 2, 0, 0, 3)", Twins::rich, x -> x.copy(2, 2, 0, 0, 3));
        beyond("copy(2, 0, 0, 1, 3)", Twins::rich, x -> x.copy(2, 0, 0, 1, 3));
        beyond("copy(2, 1, 0, 0, -1)", Twins::rich, x -> x.copy(2, 1, 0, 0, -1));
        beyond("copy(2, -1, 0, 0, 1)", Twins::rich, x -> x.copy(2, -1, 0, 0, 1));
        beyond("copy(2, 0, 0, -1, 1)", Twins::rich, x -> x.copy(2, 0, 0, -1, 1));
        beyond("copy, a sum that wraps round", Twins::rich, x -> x.copy(2, 1, 0, 1, Integer.MAX_VALUE));
        beyond("copy, a sum that wraps round", Twins::rich, x -> x.copy(2, Integer.MAX_VALUE, 0, 0, 1));
        beyond("copy, a sum that wraps round", Twins::rich, x -> x.copy(2, 0, 0, Integer.MAX_VALUE, 1));
    }

    private static void kind(String call, ToLongFunction<OneShort> act) {
        Twins.refused(call, Twins::rich, act, Check.KIND);
    }

    private static void nothingKept() {
        none("undo()", OneShort::new, OneShort::undo);
        none("undo()", Twins::one, OneShort::undo);
        none("undo() behind tear()", RefusedTest::torn, OneShort::undo);
    }

    private static OneShort torn() {
        OneShort x = Twins.rich();
        x.tear();
        return x;
    }

    private static void oddsInLongs() {
        Check.due("odds(15, 0)", new OneShort().odds(15, 0), -1000001L);
        Check.due("odds(0, 2)", Twins.full().odds(0, 2), -1000001L);
    }

    private static void countedEver() {
        OneShort x = Twins.full();
        for (int i = 1; i <= 60; i++) {
            x.player(0, 0);
            x.judge(i % 4);
            Check.due("status(1)", x.status(1), i);
            Check.due("status(5)", x.status(5), i);
            Check.due("status(-1)", x.status(-1), 2 * i);
            x.undo();
        }
        x.tear();
        x.wipe();
        x.text();
        Check.due("neither tear() nor a FAULT takes one back", x.status(-1), 120);
        Check.due("status(6)", x.status(6), 0);
        Check.due("status(0)", x.status(0), 0);
        Check.due("status(-2)", x.status(-2), Check.BEYOND);
        Check.due("status(7)", x.status(7), Check.BEYOND);
        Check.due("those of status() are counted, too", x.status(0), 2);
        Check.due("status(-1)", x.status(-1), 122);
    }

    /** What will be, who is one too many, who is who, seats, how nerve went, odds: nothing changes. */
    private static void onlyAsked() {
        Twins.asks("ahead", Twins::rich, x -> x.ahead(1, 40));
        Twins.asks("broken", Twins::rich, x -> x.broken(1));
        Twins.asks("settles", Twins::rich, OneShort::settles);
        Twins.asks("kindFor", Twins::rich, x -> x.kindFor(2, 20));
        Twins.asks("seatFor", Twins::rich, x -> x.seatFor(2, 20));
        Twins.asks("spare", Twins::rich, OneShort::spare);
        Twins.asks("fewest", Twins::rich, OneShort::fewest);
        Twins.asks("lost", Twins::rich, x -> x.lost(7));
        Twins.asks("dearest", Twins::rich, OneShort::dearest);
        Twins.asks("parts", Twins::rich, x -> x.parts(0, 2));
        Twins.asks("tells", Twins::rich, OneShort::tells);
        Twins.asks("halves", Twins::rich, OneShort::halves);
        Twins.asks("who", Twins::rich, x -> x.who(4095));
        Twins.asks("nearest", Twins::rich, x -> x.nearest(2, 0));
        Twins.asks("links", Twins::rich, OneShort::links);
        Twins.asks("bestSwap", Twins::rich, OneShort::bestSwap);
        Twins.asks("loudFor", Twins::rich, x -> x.loudFor(2, 15, 3));
        Twins.asks("fits", Twins::rich, x -> x.fits(1, 2));
        Twins.asks("kinds", Twins::rich, x -> x.kinds(1, 2));
        Twins.asks("odds", Twins::rich, x -> x.odds(14, 1));
        Twins.asks("judge", Twins::rich, x -> x.judge(2));
        Twins.asks("as", Twins::rich, x -> x.as(9, 5));
        Twins.asks("image of what is kept already", RefusedTest::undone, OneShort::image);
    }

    private static OneShort undone() {
        OneShort x = Twins.rich();
        x.undo();
        return x;
    }

    /** With a FAULT nothing changes but that THE TAPE is empty, and it is no finding. */
    private static void faults() {
        String[] faulty = {"flute", "bar 3 3;bar", "deaf;late on 16", "bar 0 0;bar 12 0", "extra nerve 99;", "late;late;late;late;late;late"};
        for (String text : faulty) {
            Twins.same("text() of " + text, Twins::rich, x -> faulty(x, text), OneShort::wipe);
        }
    }

    private static long faulty(OneShort x, String text) {
        x.wipe();
        long told = Check.tell(x, text);
        Check.due("a FAULT in " + text, told < 0 && told >= -121 ? 1 : 0, 1);
        return told;
    }
}

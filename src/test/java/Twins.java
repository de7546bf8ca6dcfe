import java.util.ArrayList;
import java.util.List;
import java.util.function.Supplier;
import java.util.function.ToLongFunction;

/** Two orchestras made alike, of which one is asked something: what differs between them then. */
final class Twins {
    private Twins() {
    }

    /** A call that answers a finding: it is counted, as what it is, and nothing else has changed. */
    static void refused(String call, Supplier<OneShort> made, ToLongFunction<OneShort> act, int finding) {
        OneShort asked = made.get();
        OneShort other = made.get();
        Check.due(call, act.applyAsLong(asked), finding);
        for (int which = -1; which < 7; which++) {
            int more = which == -1 || which == Check.BEYOND - finding ? 1 : 0;
            Check.due("status(" + which + ") behind " + call, asked.status(which), other.status(which) + more);
        }
        alike(call, asked, other);
        Check.due("status(-1) behind undo(), behind " + call, asked.status(-1), other.status(-1) + 1);
    }

    /** A call that only asks: it is no finding, and nothing at all has changed. */
    static void asks(String call, Supplier<OneShort> made, ToLongFunction<OneShort> act) {
        same(call, made, act, x -> 0);
    }

    /** Two ways to come to the same. */
    static void same(String call, Supplier<OneShort> made, ToLongFunction<OneShort> act, ToLongFunction<OneShort> act2) {
        OneShort asked = made.get();
        OneShort other = made.get();
        act.applyAsLong(asked);
        act2.applyAsLong(other);
        Check.due("status(-1) behind " + call, asked.status(-1), other.status(-1));
        alike(call, asked, other);
    }

    private static void alike(String call, OneShort asked, OneShort other) {
        List<Long> got = answers(asked);
        List<Long> want = answers(other);
        for (int i = 0; i < want.size(); i++) {
            Check.due("answer " + i + " behind " + call, got.get(i), want.get(i));
        }
    }

    /** Everything that can be learned of an orchestra, always by as many calls. */
    private static List<Long> answers(OneShort x) {
        List<Long> told = new ArrayList<>();
        all(x, told);
        for (int s = 0; s < 4; s++) {
            sheet(x, s, told);
        }
        told.add((long) x.undo());
        all(x, told);
        told.add((long) x.text());
        all(x, told);
        told.add((long) x.tear());
        return told;
    }

    private static void all(OneShort x, List<Long> told) {
        for (int what = 0; what < 8; what++) {
            told.add((long) x.count(what));
        }
        bars(x, told);
        int players = x.count(1);
        for (int player = 0; player < players; player++) {
            for (int what = 0; what < 5; what++) {
                told.add((long) x.of(player, what));
            }
        }
        for (int spot = 0; spot < 10; spot++) {
            told.add((long) x.as(spot, 0));
        }
    }

    private static void bars(OneShort x, List<Long> told) {
        for (int bar = 0; bar < 12; bar++) {
            told.add((long) x.barOf(bar, 0));
        }
    }

    private static void sheet(OneShort x, int s, List<Long> told) {
        int n = 0;
        for (int step = 32; step > 0; step /= 2) {
            n += x.copy(s, 0, s, 0, n + step) == n + step ? step : 0;
        }
        told.add((long) n);
        told.add((long) x.judge(s));
        for (int t = 0; t < s; t++) {
            told.add((long) x.copy(s, 0, t, 0, 0));
        }
        told.add((long) x.load(s));
        bars(x, told);
    }

    /** Three PLAYERS, SPOTS, SHEETS, a TAPE, and an image of what was before. */
    static OneShort rich() {
        OneShort x = new OneShort();
        x.player(1, 2);
        x.player(0, 9);
        x.bar(4, 9);
        x.seed(5);
        x.hold(3, 1);
        x.image();
        x.player(5, 15);
        x.change(0, 2, 1);
        x.change(0, 3, 7);
        x.change(1, 4, 20);
        x.change(2, 2, 5);
        x.change(2, 3, 9);
        x.bar(0, 33);
        x.bar(11, 62);
        x.go(1);
        x.seed(-77);
        x.hold(0, 0);
        x.hold(9, 2);
        x.hold(3, -1);
        Check.fill(x, 0, 8, 5, 6, 7);
        Check.fill(x, 1, 16, 11, 12, 13, 14, 15, 16, 17, 18, 19, 20, 21, 22);
        Check.fill(x, 2, 8, 1, 63, 0, 9);
        x.feed(0x62617220, 4);
        x.feed(0x37203232, 4);
        return x;
    }

    /** Eight PLAYERS, and 120 bytes on THE TAPE. */
    static OneShort full() {
        OneShort x = new OneShort();
        for (int p = 0; p < 8; p++) {
            x.player(p % 7, 2 * p);
            x.change(p, 2, p % 3);
        }
        x.image();
        x.bar(3, 5);
        x.go(1);
        for (int n = 4; n <= 112; n += 4) {
            x.feed(0x20202020, 4);
        }
        x.feed(0x62617220, 4);
        x.feed(0x37203232, 4);
        return x;
    }

    static OneShort one() {
        OneShort x = new OneShort();
        x.player(2, 7);
        return x;
    }
}

import java.util.ArrayList;
import java.util.List;
import java.util.regex.Matcher;
import java.util.regex.Pattern;

/**
 * The document once more, word by word and without any thought of speed; ModelTest asks it and
 * OneShort the same.
 */
final class Model {
    private static final int BEYOND = -1000001;
    private static final String[] KIND_WORDS = {"player", "late", "doubling", "married", "extra", "deaf", "sleeper"};

    private static final class One {
        int kind;
        int seat;
        int part = 0;
        int loud = 5;
        int nerve = 50;

        One copy() {
            One c = new One();
            c.kind = kind;
            c.seat = seat;
            c.part = part;
            c.loud = loud;
            c.nerve = nerve;
            return c;
        }
    }

    private static final class World {
        int[] bars = {63, 63, 63, 63, 63, 63, 63, 63, 63, 63, 63, 63};
        List<One> ones = new ArrayList<>();
        int[] spots = {-1, -1, -1, -1, -1, -1, -1, -1, -1, -1};
        int evening = 0;
        int z = 1;

        World copy() {
            World w = new World();
            w.bars = bars.clone();
            w.spots = spots.clone();
            for (One o : ones) {
                w.ones.add(o.copy());
            }
            w.evening = evening;
            w.z = z;
            return w;
        }

        boolean inBar(int part, int bar) {
            return (bars[bar] & (1 << part)) != 0;
        }

        boolean plays(One o, int bar) {
            return playsAs(o, o.kind, bar);
        }

        boolean playsAs(One o, int kind, int bar) {
            switch (kind) {
                case 1: return playsAs(o, 0, bar) && bar != 0 && bar != 1 && bar != 2;
                case 2: return playsAs(o, 0, bar) || inBar(o.part == 5 ? 0 : o.part + 1, bar);
                case 3:
                    boolean another = false;
                    for (One other : ones) {
                        another |= other != o && other.part == 0;
                    }
                    return another && playsAs(o, 2, bar);
                case 4: return o.nerve >= 80 || playsAs(o, 3, bar);
                case 6: return playsAs(o, 1, bar) && bar % 2 == 1;
                default: return inBar(o.part, bar);
            }
        }

        int sound(One o, int seat, int bar) {
            return plays(o, bar) ? Math.max(0, o.loud - Math.abs(o.seat - seat)) : 0;
        }

        int heard(int seat, int bar, int without) {
            int most = 0;
            for (int i = 0; i < ones.size(); i++) {
                if ((without & (1 << i)) == 0) {
                    most = Math.max(most, sound(ones.get(i), seat, bar));
                }
            }
            return most;
        }

        boolean hears(One a, One b, int bar) {
            if (a == b || a.kind == 5 && b.seat < a.seat) {
                return false;
            }
            return sound(b, a.seat, bar) > 0;
        }

        boolean hearsAnybody(One a, int bar) {
            for (One b : ones) {
                if (hears(a, b, bar)) {
                    return true;
                }
            }
            return false;
        }

        void pass(int n) {
            for (int i = 0; i < n; i++) {
                pass();
            }
        }

        void pass() {
            for (int bar = 0; bar < 12; bar++) {
                int[] then = new int[ones.size()];
                for (int i = 0; i < then.length; i++) {
                    One o = ones.get(i);
                    then[i] = o.nerve;
                    if (plays(o, bar)) {
                        then[i] += hearsAnybody(o, bar) ? 1 : -3;
                    }
                }
                for (int i = 0; i < then.length; i++) {
                    ones.get(i).nerve = Math.max(0, Math.min(99, then[i]));
                }
            }
            for (One o : ones) {
                if (o.nerve == 0) {
                    o.loud = Math.max(0, o.loud - 1);
                }
            }
            evening++;
        }

        String nerves() {
            StringBuilder s = new StringBuilder();
            for (One o : ones) {
                s.append(o.nerve).append('/').append(o.loud).append(' ');
            }
            return s.toString();
        }

        int lost(int without) {
            int lost = 0;
            for (int bar = 0; bar < 12; bar++) {
                for (int seat = 0; seat < 16; seat++) {
                    if (heard(seat, bar, without) < heard(seat, bar, 0)) {
                        lost++;
                    }
                }
            }
            return lost;
        }

        int hearsInBars(One a, One b) {
            int set = 0;
            for (int bar = 0; bar < 12; bar++) {
                if (hears(a, b, bar)) {
                    set |= 1 << bar;
                }
            }
            return set;
        }

        int playsInBars(One a) {
            int set = 0;
            for (int bar = 0; bar < 12; bar++) {
                if (plays(a, bar)) {
                    set |= 1 << bar;
                }
            }
            return set;
        }

        int links() {
            int links = 0;
            for (One a : ones) {
                for (One b : ones) {
                    if (hearsInBars(a, b) != 0) {
                        links++;
                    }
                }
            }
            return links;
        }
    }

    private World world = new World();
    private World image = null;
    private final List<Integer> tape = new ArrayList<>();
    private final List<List<Integer>> sheets = new ArrayList<>(List.of(List.of(), List.of(), List.of(), List.of()));
    private final int[] bits = new int[4];
    private final int[] told = new int[7];

    private int tell(int finding) {
        told[BEYOND - finding]++;
        return finding;
    }

    private boolean in(int v, int end) {
        return v >= 0 && v < end;
    }

    private boolean isOne(int p) {
        return in(p, world.ones.size());
    }

    private boolean areTwo(int a, int b) {
        return isOne(a) && isOne(b) && a != b;
    }

    private static void set(One o, int what, int v) {
        switch (what) {
            case 0: o.kind = v; break;
            case 1: o.seat = v; break;
            case 2: o.part = v; break;
            case 3: o.loud = v; break;
            default: o.nerve = v;
        }
    }

    public int bar(int bar, int parts) {
        if (!in(bar, 12) || !in(parts, 64)) {
            return tell(BEYOND);
        }
        int was = world.bars[bar];
        world.bars[bar] = parts;
        return was;
    }

    public int barOf(int bar, int what) {
        if (!in(bar, 12) || !in(what, 3)) {
            return tell(BEYOND);
        }
        if (what == 0) {
            return world.bars[bar];
        }
        int set = 0;
        for (int i = 0; i < world.ones.size(); i++) {
            set += world.plays(world.ones.get(i), bar) ? 1 << i : 0;
        }
        int seats = 0;
        for (int seat = 0; seat < 16; seat++) {
            seats += world.heard(seat, bar, 0) > 0 ? 1 : 0;
        }
        return what == 1 ? set : seats;
    }

    public int player(int kind, int seat) {
        if (!in(kind, 7) || !in(seat, 16)) {
            return tell(BEYOND);
        }
        if (world.ones.size() == 8) {
            return tell(BEYOND - 1);
        }
        One o = new One();
        o.kind = kind;
        o.seat = seat;
        world.ones.add(o);
        return world.ones.size() - 1;
    }

    public int of(int player, int what) {
        if (!isOne(player) || !in(what, 7)) {
            return tell(BEYOND);
        }
        One o = world.ones.get(player);
        int alone = 0;
        for (int bar = 0; bar < 12; bar++) {
            if (world.plays(o, bar) && !world.hearsAnybody(o, bar)) {
                alone |= 1 << bar;
            }
        }
        return new int[] {o.kind, o.seat, o.part, o.loud, o.nerve, world.playsInBars(o), alone}[what];
    }

    public int change(int player, int what, int v) {
        if (!isOne(player) || !in(what, 5) || !in(v, new int[] {7, 16, 6, 10, 100}[what])) {
            return tell(BEYOND);
        }
        int was = of(player, what);
        set(world.ones.get(player), what, v);
        return was;
    }

    public int swap(int a, int b) {
        if (!areTwo(a, b)) {
            return tell(BEYOND);
        }
        One x = world.ones.get(a);
        One y = world.ones.get(b);
        int seat = x.seat;
        x.seat = y.seat;
        y.seat = seat;
        return x.seat == y.seat ? 0 : 1;
    }

    public int sound(int player, int seat, int bar) {
        if (!isOne(player) || !in(seat, 16) || !in(bar, 12)) {
            return tell(BEYOND);
        }
        return world.sound(world.ones.get(player), seat, bar);
    }

    public int heard(int seat, int bar) {
        return in(seat, 16) && in(bar, 12) ? world.heard(seat, bar, 0) : tell(BEYOND);
    }

    public int hears(int a, int b) {
        return areTwo(a, b) ? world.hearsInBars(world.ones.get(a), world.ones.get(b)) : tell(BEYOND);
    }

    public int hearing(int player, int bar) {
        if (!isOne(player) || !in(bar, 12)) {
            return tell(BEYOND);
        }
        int set = 0;
        for (int b = 0; b < world.ones.size(); b++) {
            set |= world.hears(world.ones.get(player), world.ones.get(b), bar) ? 1 << b : 0;
        }
        return set;
    }

    public int go(int n) {
        if (n < 1 || n > 20) {
            return tell(BEYOND);
        }
        world.pass(n);
        return now(1);
    }

    public int now(int what) {
        int nerve = 0;
        int loud = 0;
        int none = 0;
        for (int i = 0; i < world.ones.size(); i++) {
            nerve += world.ones.get(i).nerve;
            loud += world.ones.get(i).loud;
            none |= world.ones.get(i).nerve == 0 ? 1 << i : 0;
        }
        int heard = 0;
        for (int i = 0; i < 12 * 16; i++) {
            heard += world.heard(i % 16, i / 16, 0);
        }
        return in(what, 5) ? new int[] {world.evening, nerve, none, loud, heard}[what] : tell(BEYOND);
    }

    public int ahead(int player, int n) {
        if (!isOne(player) || !in(n, 41)) {
            return tell(BEYOND);
        }
        World w = world.copy();
        w.pass(n);
        return w.ones.get(player).nerve;
    }

    public int broken(int player) {
        if (!isOne(player)) {
            return tell(BEYOND);
        }
        for (int n = 0; n <= 40; n++) {
            if (ahead(player, n) == 0) {
                return n;
            }
        }
        return tell(BEYOND - 3);
    }

    public int settles() {
        World w = world.copy();
        for (int n = 0; n <= 40; n++) {
            String before = w.nerves();
            w.pass();
            if (before.equals(w.nerves())) {
                return n;
            }
        }
        return tell(BEYOND - 3);
    }

    private int bestFor(int player, int what, int end, int n) {
        if (!isOne(player) || !in(n, 21)) {
            return tell(BEYOND);
        }
        int best = -1;
        int most = -1;
        for (int v = 0; v < end; v++) {
            World w = world.copy();
            set(w.ones.get(player), what, v);
            w.pass(n);
            if (w.ones.get(player).nerve > most) {
                most = w.ones.get(player).nerve;
                best = v;
            }
        }
        return best;
    }

    public int kindFor(int player, int n) {
        return bestFor(player, 0, 7, n);
    }

    public int seatFor(int player, int n) {
        return bestFor(player, 1, 16, n);
    }

    public int spare() {
        int set = 0;
        for (int p = 0; p < world.ones.size(); p++) {
            set |= world.lost(1 << p) == 0 ? 1 << p : 0;
        }
        return set;
    }

    public int fewest() {
        int all = (1 << world.ones.size()) - 1;
        int best = all;
        for (int set = all; set >= 0; set--) {
            if (Integer.bitCount(set) <= Integer.bitCount(best) && world.lost(all & ~set) == 0) {
                best = set;
            }
        }
        return best;
    }

    public int lost(int players) {
        return in(players, 1 << world.ones.size()) ? world.lost(players) : tell(BEYOND);
    }

    public int dearest() {
        int best = -1;
        for (int p = 0; p < world.ones.size(); p++) {
            if (best < 0 || world.lost(1 << p) > world.lost(1 << best)) {
                best = p;
            }
        }
        return best < 0 ? tell(BEYOND - 3) : best;
    }

    public int parts(int a, int b) {
        if (!areTwo(a, b)) {
            return tell(BEYOND);
        }
        int set = 0;
        for (int bar = 0; bar < 12; bar++) {
            set |= world.plays(world.ones.get(a), bar) != world.plays(world.ones.get(b), bar) ? 1 << bar : 0;
        }
        return set;
    }

    public int tells() {
        int[] played = new int[world.ones.size()];
        for (int p = 0; p < played.length; p++) {
            played[p] = world.playsInBars(world.ones.get(p));
        }
        int best = -1;
        for (int set = 0; set < 4096; set++) {
            boolean enough = true;
            for (int i = 0; i < played.length; i++) {
                for (int j = 0; j < i; j++) {
                    enough &= (played[i] & set) != (played[j] & set);
                }
            }
            if (enough && (best < 0 || Integer.bitCount(set) < Integer.bitCount(best))) {
                best = set;
            }
        }
        return best < 0 ? tell(BEYOND - 3) : best;
    }

    public int halves() {
        int best = 0;
        for (int bar = 1; bar < 12; bar++) {
            if (awayFromHalf(bar) < awayFromHalf(best)) {
                best = bar;
            }
        }
        return best;
    }

    private int awayFromHalf(int bar) {
        return Math.abs(2 * Integer.bitCount(barOf(bar, 1)) - world.ones.size());
    }

    public int who(int bars) {
        if (!in(bars, 4096)) {
            return tell(BEYOND);
        }
        int set = 0;
        for (int p = 0; p < world.ones.size(); p++) {
            set |= world.playsInBars(world.ones.get(p)) == bars ? 1 << p : 0;
        }
        return set;
    }

    public int nearest(int a, int b) {
        if (!areTwo(a, b)) {
            return tell(BEYOND);
        }
        World w = world.copy();
        int best = 0;
        int most = 0;
        for (int seat = 0; seat < 16; seat++) {
            w.ones.get(a).seat = seat;
            int bars = Integer.bitCount(w.hearsInBars(w.ones.get(a), w.ones.get(b)));
            if (bars > most) {
                most = bars;
                best = seat;
            }
        }
        return best;
    }

    public int links() {
        return world.links();
    }

    public int bestSwap() {
        int best = -1;
        int most = -1;
        for (int pair = 0; pair < 64; pair++) {
            int a = pair / 8;
            int b = pair % 8;
            if (a < b && b < world.ones.size()) {
                World w = world.copy();
                w.ones.get(a).seat = world.ones.get(b).seat;
                w.ones.get(b).seat = world.ones.get(a).seat;
                if (w.links() > most) {
                    most = w.links();
                    best = pair;
                }
            }
        }
        return best < 0 ? tell(BEYOND - 3) : best;
    }

    public int loudFor(int player, int seat, int bar) {
        if (!isOne(player) || !in(seat, 16) || !in(bar, 12)) {
            return tell(BEYOND);
        }
        World w = world.copy();
        for (int loud = 0; loud <= 9; loud++) {
            w.ones.get(player).loud = loud;
            if (w.sound(w.ones.get(player), seat, bar) > 0) {
                return loud;
            }
        }
        return tell(BEYOND - 3);
    }

    private int such(int s, int player, int what, int end) {
        if (!in(s, 4)) {
            return tell(BEYOND);
        }
        if (bits[s] == 0) {
            return tell(BEYOND - 5);
        }
        if (!isOne(player)) {
            return tell(BEYOND);
        }
        int set = 0;
        for (int v = 0; v < end; v++) {
            World w = world.copy();
            set(w.ones.get(player), what, v);
            boolean so = true;
            for (int number : sheets.get(s)) {
                so &= number == -1 || number == w.ones.get(player).nerve;
                w.pass();
            }
            set |= so ? 1 << v : 0;
        }
        return set;
    }

    public int fits(int s, int player) {
        return such(s, player, 2, 6);
    }

    public int kinds(int s, int player) {
        return such(s, player, 0, 7);
    }

    public int strings(int n) {
        if (n < 1 || n > 12) {
            return tell(BEYOND);
        }
        int hit = 0;
        for (int i = 0; i < n; i++) {
            world.z = (int) (world.z * 1103515245L + 12345L);
            int rest = (world.z >>> 8) % 16;
            if (isOne(rest)) {
                world.ones.get(rest).nerve = 0;
                hit++;
            }
            world.pass();
        }
        return hit;
    }

    public long odds(int n, int what) {
        if (!in(n, 15) || !in(what, 2)) {
            return tell(BEYOND);
        }
        long above = 1;
        long below = 1;
        for (int i = 0; i < n; i++) {
            above *= 16 - world.ones.size();
            below *= 16;
        }
        while (above % 2 == 0 && below % 2 == 0) {
            above /= 2;
            below /= 2;
        }
        return what == 0 ? above : below;
    }

    public int seed(int v) {
        int was = world.z;
        world.z = v;
        return was;
    }

    public int feed(int bytes, int n) {
        if (n < 1 || n > 4) {
            return tell(BEYOND);
        }
        if (tape.size() + n > 120) {
            return tell(BEYOND - 1);
        }
        byte[] four = {(byte) (bytes >> 24), (byte) (bytes >> 16), (byte) (bytes >> 8), (byte) bytes};
        for (int i = 4 - n; i < 4; i++) {
            tape.add(Byte.toUnsignedInt(four[i]));
        }
        return tape.size();
    }

    public int wipe() {
        int had = tape.size();
        tape.clear();
        return had;
    }

    public int text() {
        StringBuilder bytes = new StringBuilder();
        for (int b : tape) {
            bytes.append((char) b);
        }
        tape.clear();
        List<String> tokens = new ArrayList<>();
        List<Integer> places = new ArrayList<>();
        Matcher m = Pattern.compile("[a-z]+|[0-9]+|[^ ]").matcher(bytes);
        while (m.find()) {
            tokens.add(m.group());
            places.add(m.start());
        }
        tokens.add("");
        places.add(bytes.length());
        World w = world.copy();
        int at = 0;
        int items = 0;
        while (true) {
            int end = item(w, tokens, at);
            if (end < 0) {
                return -1 - places.get(-1 - end);
            }
            items++;
            if (tokens.get(end).isEmpty()) {
                world = w;
                return items;
            }
            if (!tokens.get(end).equals(";")) {
                return -1 - places.get(end);
            }
            at = end + 1;
        }
    }

    /** The token behind the ITEM; or -1 less the one that can't stand there. */
    private static int item(World w, List<String> tokens, int at) {
        String word = tokens.get(at);
        if (word.equals("bar")) {
            if (!number(tokens.get(at + 1), 12)) {
                return -1 - (at + 1);
            }
            if (!number(tokens.get(at + 2), 64)) {
                return -1 - (at + 2);
            }
            w.bars[Integer.parseInt(tokens.get(at + 1))] = Integer.parseInt(tokens.get(at + 2));
            return at + 3;
        }
        int kind = List.of(KIND_WORDS).indexOf(word);
        if (kind < 0 || w.ones.size() == 8) {
            return -1 - at;
        }
        One o = new One();
        o.kind = kind;
        w.ones.add(o);
        int next = at + 1;
        String[] words = {"on", "part", "loud", "nerve"};
        int[] ends = {16, 6, 10, 100};
        for (int i = 0; i < 4; i++) {
            if (tokens.get(next).equals(words[i])) {
                if (!number(tokens.get(next + 1), ends[i])) {
                    return -1 - (next + 1);
                }
                set(o, i + 1, Integer.parseInt(tokens.get(next + 1)));
                next += 2;
            }
        }
        return next;
    }

    private static boolean number(String token, int end) {
        return token.matches("[0-9]{1,9}") && Integer.parseInt(token) < end;
    }

    public int hold(int spot, int player) {
        if (!in(spot, 10) || player != -1 && !isOne(player)) {
            return tell(BEYOND);
        }
        world.spots[spot] = player;
        return 1;
    }

    public int as(int spot, int kind) {
        if (!in(spot, 10) || !in(kind, 7)) {
            return tell(BEYOND);
        }
        int held = world.spots[spot];
        if (held < 0) {
            return tell(BEYOND - 5);
        }
        String[] lines = {"0", "01", "02", "023", "0234", "05", "016"};
        boolean is = lines[world.ones.get(held).kind].indexOf('0' + kind) >= 0;
        return is ? held : tell(BEYOND - 2);
    }

    public int sheet(int s, int width, int n) {
        if (!in(s, 4) || !List.of(0, 8, 16, 32).contains(width)) {
            return tell(BEYOND);
        }
        if (n < 0) {
            return tell(BEYOND - 6);
        }
        if (n > 40) {
            return tell(BEYOND);
        }
        bits[s] = width;
        List<Integer> row = new ArrayList<>();
        for (int i = 0; i < n && width > 0; i++) {
            row.add(0);
        }
        sheets.set(s, row);
        return row.size();
    }

    public int write(int s, int i, int v) {
        if (!in(s, 4)) {
            return tell(BEYOND);
        }
        if (bits[s] == 0) {
            return tell(BEYOND - 5);
        }
        if (!in(i, sheets.get(s).size())) {
            return tell(BEYOND);
        }
        int away = 32 - bits[s];
        sheets.get(s).set(i, v << away >> away);
        return 1;
    }

    public int copy(int s, int from, int t, int to, int n) {
        if (!in(s, 4) || !in(t, 4)) {
            return tell(BEYOND);
        }
        if (bits[s] == 0 || bits[t] == 0) {
            return tell(BEYOND - 5);
        }
        if (bits[s] != bits[t]) {
            return tell(BEYOND - 2);
        }
        if (from < 0 || to < 0 || n < 0 || (long) from + n > sheets.get(s).size() || (long) to + n > sheets.get(t).size()) {
            return tell(BEYOND);
        }
        List<Integer> was = new ArrayList<>(sheets.get(s));
        for (int i = 0; i < n; i++) {
            sheets.get(t).set(to + i, was.get(from + i));
        }
        return n;
    }

    public int load(int s) {
        if (!in(s, 4)) {
            return tell(BEYOND);
        }
        if (bits[s] == 0) {
            return tell(BEYOND - 5);
        }
        int came = 0;
        for (int number : sheets.get(s)) {
            if (came == 12 || !in(number, 64)) {
                break;
            }
            world.bars[came++] = number;
        }
        return came;
    }

    public int judge(int s) {
        if (!in(s, 4)) {
            return tell(BEYOND);
        }
        if (bits[s] == 0) {
            return tell(BEYOND - 5);
        }
        One last = null;
        int place = 0;
        for (int number : sheets.get(s)) {
            if (!isOne(number) || last != null && world.hearsInBars(world.ones.get(number), last) == 0) {
                return 1 + place;
            }
            last = world.ones.get(number);
            place++;
        }
        return 0;
    }

    public int image() {
        image = world.copy();
        return 1;
    }

    public int undo() {
        if (image == null) {
            return tell(BEYOND - 3);
        }
        world = image.copy();
        return world.evening;
    }

    public int tear() {
        int was = image == null ? 0 : 1;
        image = null;
        return was;
    }

    public int count(int what) {
        if (!in(what, 8)) {
            return tell(BEYOND);
        }
        int held = 0;
        for (int spot : world.spots) {
            held += spot >= 0 ? 1 : 0;
        }
        return new int[] {world.evening, world.ones.size(), Integer.bitCount(now(2)), now(3), now(1), tape.size(), world.z, held}[what];
    }

    public int status(int which) {
        if (which < -1 || which > 6) {
            return tell(BEYOND);
        }
        int all = 0;
        for (int n : told) {
            all += n;
        }
        return which < 0 ? all : told[which];
    }
}

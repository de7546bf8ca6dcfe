/** An orchestra that is one short, as ../shared/DOC.md tells it. */
public final class OneShort {
    private static final int LOW = -1000001;

    // Findings, as places in the row of their counts: LOW less the place is what a call answers.
    private static final int BEYOND = 0;
    private static final int FULL = 1;
    private static final int WRONG_KIND = 2;
    private static final int NONE = 3;
    private static final int STATE = 4;
    private static final int MISSING = 5;
    private static final int SIZE = 6;
    private static final int FINDINGS = 7;
    private static final int NO_FINDING = -1;

    private static final int SEATS = 16;
    private static final int PARTS = 6;
    private static final int PART_SETS = 64;
    private static final int BARS = 12;
    private static final int ALL_BARS = 4095;
    private static final int MOST_PLAYERS = 8;
    private static final int PLAYER_SETS = 256;
    private static final int PLAYER_PAIRS = 28;
    private static final int MOST_LOUD = 9;
    private static final int MOST_NERVE = 99;
    private static final int BRAVE = 80;
    private static final int MOST_EVENINGS = 99999;
    private static final int FORESIGHT = 40;
    private static final int SPOTS = 10;
    private static final int SHEETS = 4;
    private static final int SHEET_LENGTH = 40;
    private static final int TAPE_LENGTH = 120;
    private static final int DRAW_PLACES = 16;

    private static final int LATE = 1;
    private static final int DOUBLING = 2;
    private static final int MARRIED = 3;
    private static final int EXTRA = 4;
    private static final int DEAF = 5;
    private static final int SLEEPER = 6;
    private static final int KINDS = 7;
    private static final int[] KIND_ABOVE = {-1, 0, 0, 2, 3, 0, 1};
    private static final int LATE_BARS = 0xFF8;
    private static final int ODD_BARS = 0xAAA;

    private final Orchestra orchestra = new Orchestra();
    // Calls that only ask what would be change this one instead.
    private final Orchestra trial = new Orchestra();
    private final Orchestra kept = new Orchestra();
    private boolean isKept = false;
    private final Tape tape = new Tape();
    private final Sheet[] sheets = new Sheet[SHEETS];
    private final int[] findings = new int[FINDINGS];
    // For each set of PLAYERS at how many SEATS and BARS just these are loudest.
    private final int[] loudestAt = new int[PLAYER_SETS];
    // Sets each of which a least set has to touch.
    private final int[] toTouch = new int[PLAYER_SETS];

    public OneShort() {
        for (int s = 0; s < SHEETS; s++) {
            sheets[s] = new Sheet();
        }
    }

    // ---- bars, players

    public int bar(int bar, int parts) {
        if (!isBar(bar) || parts < 0 || parts >= PART_SETS) {
            return finding(BEYOND);
        }
        int before = orchestra.bars[bar];
        orchestra.bars[bar] = parts;
        return before;
    }

    public int barOf(int bar, int what) {
        if (!isBar(bar)) {
            return finding(BEYOND);
        }
        switch (what) {
            case 0: return orchestra.bars[bar];
            case 1: return orchestra.playersIn(bar);
            case 2: return orchestra.seatsReached(bar);
            default: return finding(BEYOND);
        }
    }

    public int player(int kind, int seat) {
        if (!isKind(kind) || !isSeat(seat)) {
            return finding(BEYOND);
        }
        if (orchestra.size >= MOST_PLAYERS) {
            return finding(FULL);
        }
        return orchestra.engage(kind, seat);
    }

    public int of(int player, int what) {
        if (!isPlayer(player)) {
            return finding(BEYOND);
        }
        switch (what) {
            case 0: return orchestra.kind[player];
            case 1: return orchestra.seat[player];
            case 2: return orchestra.part[player];
            case 3: return orchestra.loud[player];
            case 4: return orchestra.nerve[player];
            case 5: return orchestra.barsPlayed(player);
            case 6: return orchestra.barsAlone(player);
            default: return finding(BEYOND);
        }
    }

    public int change(int player, int what, int v) {
        if (!isPlayer(player)) {
            return finding(BEYOND);
        }
        switch (what) {
            case 0: return put(orchestra.kind, player, v, KINDS - 1);
            case 1: return put(orchestra.seat, player, v, SEATS - 1);
            case 2: return put(orchestra.part, player, v, PARTS - 1);
            case 3: return put(orchestra.loud, player, v, MOST_LOUD);
            case 4: return put(orchestra.nerve, player, v, MOST_NERVE);
            default: return finding(BEYOND);
        }
    }

    public int swap(int a, int b) {
        if (!isPair(a, b)) {
            return finding(BEYOND);
        }
        if (orchestra.seat[a] == orchestra.seat[b]) {
            return 0;
        }
        orchestra.exchangeSeats(a, b);
        return 1;
    }

    // ---- what is heard

    public int sound(int player, int seat, int bar) {
        if (!isPlayer(player) || !isSeat(seat) || !isBar(bar)) {
            return finding(BEYOND);
        }
        return orchestra.isPlaying(player, bar) ? orchestra.loudness(player, seat) : 0;
    }

    public int heard(int seat, int bar) {
        if (!isSeat(seat) || !isBar(bar)) {
            return finding(BEYOND);
        }
        return orchestra.greatest(seat, orchestra.playersIn(bar));
    }

    public int hears(int a, int b) {
        if (!isPair(a, b)) {
            return finding(BEYOND);
        }
        return orchestra.barsHearing(a, b);
    }

    public int hearing(int player, int bar) {
        if (!isPlayer(player) || !isBar(bar)) {
            return finding(BEYOND);
        }
        return orchestra.reaching(player) & orchestra.playersIn(bar);
    }

    // ---- evenings

    public int go(int n) {
        if (n < 1 || n > 20) {
            return finding(BEYOND);
        }
        if (orchestra.evening > MOST_EVENINGS - n) {
            return finding(STATE);
        }
        orchestra.passEvenings(n);
        return orchestra.allNerve();
    }

    public int now(int what) {
        switch (what) {
            case 0: return orchestra.evening;
            case 1: return orchestra.allNerve();
            case 2: return orchestra.unnerved();
            case 3: return orchestra.allLoud();
            case 4: return orchestra.allHeard();
            default: return finding(BEYOND);
        }
    }

    // ---- what will be (nothing changes)

    public int ahead(int player, int n) {
        if (!isPlayer(player) || n < 0 || n > FORESIGHT) {
            return finding(BEYOND);
        }
        trial.become(orchestra);
        trial.passEvenings(n);
        return trial.nerve[player];
    }

    public int broken(int player) {
        if (!isPlayer(player)) {
            return finding(BEYOND);
        }
        trial.become(orchestra);
        for (int n = 0; n <= FORESIGHT; n++) {
            if (trial.nerve[player] == 0) {
                return n;
            }
            trial.passEvening();
        }
        return finding(NONE);
    }

    public int settles() {
        trial.become(orchestra);
        for (int n = 0; n <= FORESIGHT; n++) {
            if (!trial.passEvening()) {
                return n;
            }
        }
        return finding(NONE);
    }

    public int kindFor(int player, int n) {
        if (!isPlayer(player) || n < 0 || n > 20) {
            return finding(BEYOND);
        }
        return bravestAs(trial.kind, player, KINDS, n);
    }

    public int seatFor(int player, int n) {
        if (!isPlayer(player) || n < 0 || n > 20) {
            return finding(BEYOND);
        }
        return bravestAs(trial.seat, player, SEATS, n);
    }

    // ---- who is one too many

    public int spare() {
        countLoudest();
        int spare = 0;
        for (int p = 0; p < orchestra.size; p++) {
            if (loudestAt[1 << p] == 0) {
                spare |= 1 << p;
            }
        }
        return spare;
    }

    public int fewest() {
        countLoudest();
        int n = 0;
        for (int set = 1; set < PLAYER_SETS; set++) {
            if (loudestAt[set] > 0) {
                toTouch[n] = set;
                n++;
            }
        }
        return leastTouching(n, 1 << orchestra.size);
    }

    public int lost(int players) {
        if (players < 0 || players >= 1 << orchestra.size) {
            return finding(BEYOND);
        }
        countLoudest();
        int lost = 0;
        for (int set = 1; set < PLAYER_SETS; set++) {
            if ((set & ~players) == 0) {
                lost += loudestAt[set];
            }
        }
        return lost;
    }

    public int dearest() {
        if (orchestra.size == 0) {
            return finding(NONE);
        }
        countLoudest();
        int dearest = 0;
        for (int p = 1; p < orchestra.size; p++) {
            if (loudestAt[1 << p] > loudestAt[1 << dearest]) {
                dearest = p;
            }
        }
        return dearest;
    }

    // ---- who is who by what is played

    public int parts(int a, int b) {
        if (!isPair(a, b)) {
            return finding(BEYOND);
        }
        return orchestra.barsPlayed(a) ^ orchestra.barsPlayed(b);
    }

    public int tells() {
        int n = 0;
        for (int a = 0; a < orchestra.size; a++) {
            for (int b = a + 1; b < orchestra.size && n < PLAYER_PAIRS; b++) {
                toTouch[n] = orchestra.barsPlayed(a) ^ orchestra.barsPlayed(b);
                if (toTouch[n] == 0) {
                    return finding(NONE);
                }
                n++;
            }
        }
        return leastTouching(n, ALL_BARS + 1);
    }

    public int halves() {
        int best = 0;
        int most = -1;
        for (int bar = 0; bar < BARS; bar++) {
            int playing = Integer.bitCount(orchestra.playersIn(bar));
            int lesser = Math.min(playing, orchestra.size - playing);
            if (lesser > most) {
                most = lesser;
                best = bar;
            }
        }
        return best;
    }

    public int who(int bars) {
        if (bars < 0 || bars > ALL_BARS) {
            return finding(BEYOND);
        }
        int who = 0;
        for (int p = 0; p < orchestra.size; p++) {
            if (orchestra.barsPlayed(p) == bars) {
                who |= 1 << p;
            }
        }
        return who;
    }

    // ---- seats

    public int nearest(int a, int b) {
        if (!isPair(a, b)) {
            return finding(BEYOND);
        }
        trial.become(orchestra);
        int best = 0;
        int most = -1;
        for (int seat = 0; seat < SEATS; seat++) {
            trial.seat[a] = seat;
            int bars = Integer.bitCount(trial.barsHearing(a, b));
            if (bars > most) {
                most = bars;
                best = seat;
            }
        }
        return best;
    }

    public int links() {
        return orchestra.pairsHearing();
    }

    public int bestSwap() {
        int best = -1;
        int most = -1;
        trial.become(orchestra);
        for (int a = 0; a < orchestra.size; a++) {
            for (int b = a + 1; b < orchestra.size; b++) {
                trial.exchangeSeats(a, b);
                int pairs = trial.pairsHearing();
                trial.exchangeSeats(a, b);
                if (pairs > most) {
                    most = pairs;
                    best = 8 * a + b;
                }
            }
        }
        return best < 0 ? finding(NONE) : best;
    }

    public int loudFor(int player, int seat, int bar) {
        if (!isPlayer(player) || !isSeat(seat) || !isBar(bar)) {
            return finding(BEYOND);
        }
        int least = Math.abs(orchestra.seat[player] - seat) + 1;
        if (least > MOST_LOUD || !orchestra.isPlaying(player, bar)) {
            return finding(NONE);
        }
        return least;
    }

    // ---- how nerve went

    public int fits(int s, int player) {
        return fitting(s, player, trial.part, PARTS);
    }

    public int kinds(int s, int player) {
        return fitting(s, player, trial.kind, KINDS);
    }

    // ---- strings

    public int strings(int n) {
        if (n < 1 || n > 12) {
            return finding(BEYOND);
        }
        if (orchestra.evening > MOST_EVENINGS - n) {
            return finding(STATE);
        }
        int hits = 0;
        for (int i = 0; i < n; i++) {
            int player = orchestra.draw() % DRAW_PLACES;
            if (isPlayer(player)) {
                orchestra.nerve[player] = 0;
                hits++;
            }
            orchestra.passEvening();
        }
        return hits;
    }

    public long odds(int n, int what) {
        if (n < 0 || n > 14 || what < 0 || what > 1) {
            return finding(BEYOND);
        }
        int above = DRAW_PLACES - orchestra.size;
        int below = DRAW_PLACES;
        // A divisor of 16 is a power of 2; and a fraction in lowest terms stays so when multiplied by itself.
        for (int i = 0; i < 4; i++) {
            if ((above & 1) == 0 && (below & 1) == 0) {
                above >>= 1;
                below >>= 1;
            }
        }
        int factor = what == 0 ? above : below;
        long odds = 1;
        for (int i = 0; i < n; i++) {
            odds *= factor;
        }
        return odds;
    }

    public int seed(int v) {
        int before = orchestra.z;
        orchestra.z = v;
        return before;
    }

    // ---- texts

    public int feed(int bytes, int n) {
        if (n < 1 || n > 4) {
            return finding(BEYOND);
        }
        if (tape.length > TAPE_LENGTH - n) {
            return finding(FULL);
        }
        for (int i = n - 1; i >= 0; i--) {
            tape.append(bytes >> (8 * i) & 255);
        }
        return tape.length;
    }

    public int wipe() {
        int before = tape.length;
        tape.length = 0;
        return before;
    }

    public int text() {
        trial.become(orchestra);
        int items = tape.tellTo(trial);
        if (items >= 0) {
            orchestra.become(trial);
        }
        tape.length = 0;
        return items;
    }

    // ---- spots, sheets

    public int hold(int spot, int player) {
        if (!isSpot(spot) || player != -1 && !isPlayer(player)) {
            return finding(BEYOND);
        }
        orchestra.spots[spot] = player;
        return 1;
    }

    public int as(int spot, int kind) {
        if (!isSpot(spot) || !isKind(kind)) {
            return finding(BEYOND);
        }
        int player = orchestra.spots[spot];
        if (!isPlayer(player)) {
            return finding(MISSING);
        }
        return orchestra.isOne(player, kind) ? player : finding(WRONG_KIND);
    }

    public int sheet(int s, int bits, int n) {
        if (!isSheet(s) || bits != 0 && bits != 8 && bits != 16 && bits != 32) {
            return finding(BEYOND);
        }
        if (n < 0) {
            return finding(SIZE);
        }
        if (n > SHEET_LENGTH) {
            return finding(BEYOND);
        }
        sheets[s].begin(bits, n);
        return sheets[s].length;
    }

    public int write(int s, int i, int v) {
        int lack = lackOf(s);
        if (lack != NO_FINDING) {
            return finding(lack);
        }
        if (i < 0 || i >= sheets[s].length) {
            return finding(BEYOND);
        }
        sheets[s].set(i, v);
        return 1;
    }

    public int copy(int s, int from, int t, int to, int n) {
        if (!isSheet(s) || !isSheet(t)) {
            return finding(BEYOND);
        }
        if (sheets[s].isMissing() || sheets[t].isMissing()) {
            return finding(MISSING);
        }
        if (sheets[s].bits != sheets[t].bits) {
            return finding(WRONG_KIND);
        }
        if (!sheets[s].hasRange(from, n) || !sheets[t].hasRange(to, n)) {
            return finding(BEYOND);
        }
        System.arraycopy(sheets[s].numbers, from, sheets[t].numbers, to, n);
        return n;
    }

    public int load(int s) {
        int lack = lackOf(s);
        if (lack != NO_FINDING) {
            return finding(lack);
        }
        int came = 0;
        for (int i = 0; i < sheets[s].length && i < BARS; i++) {
            int parts = sheets[s].numbers[i];
            if (parts < 0 || parts >= PART_SETS) {
                break;
            }
            orchestra.bars[i] = parts;
            came++;
        }
        return came;
    }

    public int judge(int s) {
        int lack = lackOf(s);
        if (lack != NO_FINDING) {
            return finding(lack);
        }
        int[] row = sheets[s].numbers;
        for (int i = 0; i < sheets[s].length; i++) {
            if (!isPlayer(row[i])) {
                return 1 + i;
            }
            if (i > 0 && (!isPair(row[i], row[i - 1]) || orchestra.barsHearing(row[i], row[i - 1]) == 0)) {
                return 1 + i;
            }
        }
        return 0;
    }

    // ---- images

    public int image() {
        kept.become(orchestra);
        isKept = true;
        return 1;
    }

    public int undo() {
        if (!isKept) {
            return finding(NONE);
        }
        orchestra.become(kept);
        return orchestra.evening;
    }

    public int tear() {
        int before = isKept ? 1 : 0;
        isKept = false;
        return before;
    }

    public int count(int what) {
        switch (what) {
            case 0: return orchestra.evening;
            case 1: return orchestra.size;
            case 2: return Integer.bitCount(orchestra.unnerved());
            case 3: return orchestra.allLoud();
            case 4: return orchestra.allNerve();
            case 5: return tape.length;
            case 6: return orchestra.z;
            case 7: return orchestra.spotsTaken();
            default: return finding(BEYOND);
        }
    }

    public int status(int which) {
        if (which < -1 || which >= FINDINGS) {
            return finding(BEYOND);
        }
        if (which >= 0) {
            return findings[which];
        }
        int all = 0;
        for (int code = 0; code < FINDINGS; code++) {
            all += findings[code];
        }
        return all;
    }

    // ---- within

    private int finding(int code) {
        findings[code]++;
        return LOW - code;
    }

    private boolean isBar(int bar) {
        return bar >= 0 && bar < BARS;
    }

    private boolean isSeat(int seat) {
        return seat >= 0 && seat < SEATS;
    }

    private boolean isKind(int kind) {
        return kind >= 0 && kind < KINDS;
    }

    private boolean isPlayer(int player) {
        return player >= 0 && player < orchestra.size;
    }

    private boolean isPair(int a, int b) {
        return isPlayer(a) && isPlayer(b) && a != b;
    }

    private boolean isSpot(int spot) {
        return spot >= 0 && spot < SPOTS;
    }

    private boolean isSheet(int s) {
        return s >= 0 && s < SHEETS;
    }

    /** What is told of a sheet without numbers to look at. */
    private int lackOf(int s) {
        if (!isSheet(s)) {
            return BEYOND;
        }
        return sheets[s].isMissing() ? MISSING : NO_FINDING;
    }

    private int put(int[] row, int player, int v, int most) {
        if (v < 0 || v > most) {
            return finding(BEYOND);
        }
        int before = row[player];
        row[player] = v;
        return before;
    }

    /** With which of the numbers below an end, put into a row of the trial, a PLAYER has most NERVE. */
    private int bravestAs(int[] trialRow, int player, int end, int evenings) {
        int best = 0;
        int most = -1;
        for (int v = 0; v < end; v++) {
            trial.become(orchestra);
            trialRow[player] = v;
            trial.passEvenings(evenings);
            if (trial.nerve[player] > most) {
                most = trial.nerve[player];
                best = v;
            }
        }
        return best;
    }

    /** The set of numbers below an end with which, put into a row of the trial, NERVE goes as a sheet tells. */
    private int fitting(int s, int player, int[] trialRow, int end) {
        int lack = lackOf(s);
        if (lack != NO_FINDING || !isPlayer(player)) {
            return finding(lack != NO_FINDING ? lack : BEYOND);
        }
        int set = 0;
        for (int v = 0; v < end; v++) {
            trial.become(orchestra);
            trialRow[player] = v;
            if (trialGoesAs(sheets[s], player)) {
                set |= 1 << v;
            }
        }
        return set;
    }

    private boolean trialGoesAs(Sheet told, int player) {
        for (int i = 0; i < told.length; i++) {
            if (i > 0) {
                trial.passEvening();
            }
            int nerve = told.numbers[i];
            if (nerve != -1 && nerve != trial.nerve[player]) {
                return false;
            }
        }
        return true;
    }

    /**
     * Less is heard without some just where all the loudest are among them, so who is loudest
     * where is all that has to be known of what would be lost.
     */
    private void countLoudest() {
        for (int set = 0; set < PLAYER_SETS; set++) {
            loudestAt[set] = 0;
        }
        for (int bar = 0; bar < BARS; bar++) {
            int playing = orchestra.playersIn(bar);
            for (int seat = 0; seat < SEATS; seat++) {
                loudestAt[orchestra.loudest(seat, playing)]++;
            }
        }
    }

    /** The smallest set below an end, of several the least, that touches each of n sets. */
    private int leastTouching(int n, int end) {
        int best = 0;
        int smallest = BARS + 1;
        for (int set = 0; set < end; set++) {
            int members = Integer.bitCount(set);
            if (members < smallest && touchesAll(set, n)) {
                smallest = members;
                best = set;
            }
        }
        return best;
    }

    private boolean touchesAll(int set, int n) {
        for (int i = 0; i < n && i < PLAYER_SETS; i++) {
            if ((set & toTouch[i]) == 0) {
                return false;
            }
        }
        return true;
    }

    /** All that an image keeps, and what follows from it. */
    private static final class Orchestra {
        final int[] bars = new int[BARS];
        final int[] kind = new int[MOST_PLAYERS];
        final int[] seat = new int[MOST_PLAYERS];
        final int[] part = new int[MOST_PLAYERS];
        final int[] loud = new int[MOST_PLAYERS];
        final int[] nerve = new int[MOST_PLAYERS];
        final int[] spots = new int[SPOTS];
        int size = 0;
        int evening = 0;
        int z = 1;
        // What doesn't change within an evening is found once for it.
        private final int[] written = new int[MOST_PLAYERS];
        private final int[] reach = new int[MOST_PLAYERS];
        private final int[] nerveBefore = new int[MOST_PLAYERS];

        Orchestra() {
            for (int bar = 0; bar < BARS; bar++) {
                bars[bar] = PART_SETS - 1;
            }
            for (int spot = 0; spot < SPOTS; spot++) {
                spots[spot] = -1;
            }
        }

        void become(Orchestra other) {
            System.arraycopy(other.bars, 0, bars, 0, BARS);
            System.arraycopy(other.kind, 0, kind, 0, MOST_PLAYERS);
            System.arraycopy(other.seat, 0, seat, 0, MOST_PLAYERS);
            System.arraycopy(other.part, 0, part, 0, MOST_PLAYERS);
            System.arraycopy(other.loud, 0, loud, 0, MOST_PLAYERS);
            System.arraycopy(other.nerve, 0, nerve, 0, MOST_PLAYERS);
            System.arraycopy(other.spots, 0, spots, 0, SPOTS);
            size = other.size;
            evening = other.evening;
            z = other.z;
        }

        /** A new PLAYER; or -1, if there is no room. */
        int engage(int newKind, int newSeat) {
            if (size >= MOST_PLAYERS) {
                return -1;
            }
            int player = size;
            kind[player] = newKind;
            seat[player] = newSeat;
            part[player] = 0;
            loud[player] = 5;
            nerve[player] = 50;
            size++;
            return player;
        }

        void exchangeSeats(int a, int b) {
            int seatOfA = seat[a];
            seat[a] = seat[b];
            seat[b] = seatOfA;
        }

        /** Whether a PLAYER is of a kind, or of one under it. */
        boolean isOne(int player, int ofKind) {
            int k = kind[player];
            for (int i = 0; i < KINDS && k >= 0 && k < KINDS; i++) {
                if (k == ofKind) {
                    return true;
                }
                k = KIND_ABOVE[k];
            }
            return false;
        }

        // ---- who plays when

        int barsPlayed(int player) {
            return isBold(player) ? ALL_BARS : barsWritten(player);
        }

        boolean isPlaying(int player, int bar) {
            return (barsPlayed(player) >> bar & 1) != 0;
        }

        int playersIn(int bar) {
            int playing = 0;
            for (int p = 0; p < size; p++) {
                if (isPlaying(p, bar)) {
                    playing |= 1 << p;
                }
            }
            return playing;
        }

        /** One who has NERVE enough to play what isn't written. */
        private boolean isBold(int player) {
            return nerve[player] >= BRAVE && isOne(player, EXTRA);
        }

        /** BARS in which a PLAYER PLAYS, whatever its NERVE. */
        private int barsWritten(int player) {
            if (isOne(player, MARRIED) && !hasOtherOfFirstPart(player)) {
                return 0;
            }
            int set = barsWith(part[player]);
            if (isOne(player, DOUBLING)) {
                set |= barsWith((part[player] + 1) % PARTS);
            }
            if (isOne(player, LATE)) {
                set &= LATE_BARS;
            }
            if (isOne(player, SLEEPER)) {
                set &= ODD_BARS;
            }
            return set;
        }

        private int barsWith(int aPart) {
            int set = 0;
            for (int bar = 0; bar < BARS; bar++) {
                if ((bars[bar] >> aPart & 1) != 0) {
                    set |= 1 << bar;
                }
            }
            return set;
        }

        private boolean hasOtherOfFirstPart(int player) {
            for (int p = 0; p < size; p++) {
                if (p != player && part[p] == 0) {
                    return true;
                }
            }
            return false;
        }

        // ---- what is heard where

        /** SOUND of a PLAYER at a SEAT when it PLAYS. */
        int loudness(int player, int atSeat) {
            return Math.max(0, loud[player] - Math.abs(seat[player] - atSeat));
        }

        /** HEARD at a SEAT when just these PLAY. */
        int greatest(int atSeat, int playing) {
            int most = 0;
            for (int p = 0; p < size; p++) {
                if ((playing >> p & 1) != 0) {
                    most = Math.max(most, loudness(p, atSeat));
                }
            }
            return most;
        }

        /** Those of them whose SOUND is all that is HEARD at a SEAT; none, if nothing is. */
        int loudest(int atSeat, int playing) {
            int most = greatest(atSeat, playing);
            int set = 0;
            for (int p = 0; p < size; p++) {
                if (most > 0 && (playing >> p & 1) != 0 && loudness(p, atSeat) == most) {
                    set |= 1 << p;
                }
            }
            return set;
        }

        int seatsReached(int bar) {
            int playing = playersIn(bar);
            int reached = 0;
            for (int atSeat = 0; atSeat < SEATS; atSeat++) {
                if (greatest(atSeat, playing) > 0) {
                    reached++;
                }
            }
            return reached;
        }

        int allHeard() {
            int all = 0;
            for (int bar = 0; bar < BARS; bar++) {
                int playing = playersIn(bar);
                for (int atSeat = 0; atSeat < SEATS; atSeat++) {
                    all += greatest(atSeat, playing);
                }
            }
            return all;
        }

        // ---- who hears whom

        /** Whether one HEARS another one whenever that PLAYS. */
        private boolean canHear(int a, int b) {
            if (a == b || kind[a] == DEAF && seat[b] < seat[a]) {
                return false;
            }
            return loud[b] > Math.abs(seat[b] - seat[a]);
        }

        int barsHearing(int a, int b) {
            return canHear(a, b) ? barsPlayed(b) : 0;
        }

        /** Those whom a PLAYER HEARS whenever they PLAY. */
        int reaching(int player) {
            int set = 0;
            for (int p = 0; p < size; p++) {
                if (canHear(player, p)) {
                    set |= 1 << p;
                }
            }
            return set;
        }

        /** BARS in which a PLAYER PLAYS and HEARS nobody. */
        int barsAlone(int player) {
            int set = barsPlayed(player);
            for (int p = 0; p < size; p++) {
                set &= ~barsHearing(player, p);
            }
            return set;
        }

        /** How many pairs of one and another one it HEARS in any BAR there are. */
        int pairsHearing() {
            int pairs = 0;
            for (int b = 0; b < size; b++) {
                boolean playsAtAll = barsPlayed(b) != 0;
                for (int a = 0; a < size; a++) {
                    if (playsAtAll && canHear(a, b)) {
                        pairs++;
                    }
                }
            }
            return pairs;
        }

        // ---- evenings

        void passEvenings(int n) {
            for (int i = 0; i < n; i++) {
                passEvening();
            }
        }

        /** AN EVENING goes by: whether NERVE or LOUD of anybody is another one then. */
        boolean passEvening() {
            System.arraycopy(nerve, 0, nerveBefore, 0, MOST_PLAYERS);
            for (int p = 0; p < size; p++) {
                written[p] = barsWritten(p);
                reach[p] = reaching(p);
            }
            for (int bar = 0; bar < BARS; bar++) {
                passBar(bar);
            }
            boolean changed = false;
            for (int p = 0; p < size; p++) {
                boolean tires = nerve[p] == 0 && loud[p] > 0;
                if (tires) {
                    loud[p]--;
                }
                changed = changed || tires || nerve[p] != nerveBefore[p];
            }
            evening = Math.min(MOST_EVENINGS, evening + 1);
            return changed;
        }

        /** All NERVE moves by what was at the begin of the BAR, so who PLAYS is found ahead of it. */
        private void passBar(int bar) {
            int playing = 0;
            for (int p = 0; p < size; p++) {
                if ((written[p] >> bar & 1) != 0 || isBold(p)) {
                    playing |= 1 << p;
                }
            }
            for (int p = 0; p < size; p++) {
                if ((playing >> p & 1) == 0) {
                    continue;
                }
                if ((reach[p] & playing) != 0) {
                    nerve[p] = Math.min(MOST_NERVE, nerve[p] + 1);
                } else {
                    nerve[p] = Math.max(0, nerve[p] - 3);
                }
            }
        }

        int draw() {
            z = z * 1103515245 + 12345;
            return z >>> 8;
        }

        // ---- sums

        int allNerve() {
            int all = 0;
            for (int p = 0; p < size; p++) {
                all += nerve[p];
            }
            return all;
        }

        int allLoud() {
            int all = 0;
            for (int p = 0; p < size; p++) {
                all += loud[p];
            }
            return all;
        }

        /** Those whose NERVE is 0. */
        int unnerved() {
            int set = 0;
            for (int p = 0; p < size; p++) {
                if (nerve[p] == 0) {
                    set |= 1 << p;
                }
            }
            return set;
        }

        int spotsTaken() {
            int taken = 0;
            for (int spot = 0; spot < SPOTS; spot++) {
                if (spots[spot] >= 0) {
                    taken++;
                }
            }
            return taken;
        }
    }

    /** THE TAPE, and how a TEXT is read from it. */
    private static final class Tape {
        private static final int END = 0;
        private static final int WORD = 1;
        private static final int NUMBER = 2;
        private static final int SIGN = 3;
        private static final int NO_TOKEN = 4;
        // Above all that may stand anywhere; numbers are held below it, so that none of many digits wraps round.
        private static final int TOO_MUCH = 1000;

        int length = 0;
        private final int[] bytes = new int[TAPE_LENGTH];
        // The TOKEN that is looked at: its sort, where it begins, where the next may begin, and its value.
        private int sort = END;
        private int start = 0;
        private int next = 0;
        private int value = 0;

        void append(int b) {
            if (length < TAPE_LENGTH) {
                bytes[length] = b;
                length++;
            }
        }

        /** Does to an orchestra all that the TEXT tells: how many ITEMS, or -1 less the FAULT. */
        int tellTo(Orchestra target) {
            next = 0;
            advance();
            // Each ITEM takes a byte at least.
            for (int items = 1; items <= TAPE_LENGTH; items++) {
                if (!takeItem(target)) {
                    break;
                }
                if (sort == END) {
                    return items;
                }
                if (sort != SIGN) {
                    break;
                }
                advance();
            }
            return -1 - start;
        }

        // Each of these goes on behind what it takes, and stays at what can't stand there.

        private boolean takeItem(Orchestra target) {
            if (isWord("bar")) {
                return takeBar(target);
            }
            int kind = kindTold();
            if (kind < 0 || target.size >= MOST_PLAYERS) {
                return false;
            }
            int player = target.engage(kind, 0);
            advance();
            return takePerhaps("on", target.seat, player, SEATS - 1)
                && takePerhaps("part", target.part, player, PARTS - 1)
                && takePerhaps("loud", target.loud, player, MOST_LOUD)
                && takePerhaps("nerve", target.nerve, player, MOST_NERVE);
        }

        private boolean takeBar(Orchestra target) {
            advance();
            int bar = value;
            if (!takeNumber(BARS - 1)) {
                return false;
            }
            int parts = value;
            if (!takeNumber(PART_SETS - 1)) {
                return false;
            }
            target.bars[bar] = parts;
            return true;
        }

        private boolean takePerhaps(String word, int[] row, int player, int most) {
            if (!isWord(word)) {
                return true;
            }
            advance();
            int number = value;
            if (!takeNumber(most)) {
                return false;
            }
            row[player] = number;
            return true;
        }

        private boolean takeNumber(int most) {
            if (sort != NUMBER || value > most) {
                return false;
            }
            advance();
            return true;
        }

        private int kindTold() {
            for (int kind = 0; kind < KINDS; kind++) {
                if (isWord(wordOf(kind))) {
                    return kind;
                }
            }
            return -1;
        }

        private static String wordOf(int kind) {
            switch (kind) {
                case LATE: return "late";
                case DOUBLING: return "doubling";
                case MARRIED: return "married";
                case EXTRA: return "extra";
                case DEAF: return "deaf";
                case SLEEPER: return "sleeper";
                default: return "player";
            }
        }

        private boolean isWord(String word) {
            if (sort != WORD || next - start != word.length()) {
                return false;
            }
            for (int i = 0; i < word.length(); i++) {
                if (byteAt(start + i) != word.charAt(i)) {
                    return false;
                }
            }
            return true;
        }

        private void advance() {
            while (next < length && byteAt(next) == ' ') {
                next++;
            }
            start = next;
            value = 0;
            sort = sortBegunBy(byteAt(start));
            if (sort == SIGN || sort == NO_TOKEN) {
                next++;
            }
            while (next < length && sort == WORD && isLetter(byteAt(next))) {
                next++;
            }
            while (next < length && sort == NUMBER && isDigit(byteAt(next))) {
                value = Math.min(TOO_MUCH, value * 10 + byteAt(next) - '0');
                next++;
            }
        }

        private static int sortBegunBy(int b) {
            if (b < 0) {
                return END;
            }
            if (isLetter(b)) {
                return WORD;
            }
            if (isDigit(b)) {
                return NUMBER;
            }
            return b == ';' ? SIGN : NO_TOKEN;
        }

        /** A byte of the TAPE; -1 where there is none. */
        private int byteAt(int place) {
            return place >= 0 && place < length && place < TAPE_LENGTH ? bytes[place] : -1;
        }

        private static boolean isLetter(int b) {
            return b >= 'a' && b <= 'z';
        }

        private static boolean isDigit(int b) {
            return b >= '0' && b <= '9';
        }
    }

    /** A row of numbers of so many bits; of 0 bits, if it is MISSING. */
    private static final class Sheet {
        final int[] numbers = new int[SHEET_LENGTH];
        int bits = 0;
        int length = 0;

        boolean isMissing() {
            return bits == 0;
        }

        void begin(int newBits, int n) {
            bits = newBits;
            length = newBits == 0 ? 0 : n;
            for (int i = 0; i < SHEET_LENGTH; i++) {
                numbers[i] = 0;
            }
        }

        void set(int i, int v) {
            if (bits == 8) {
                numbers[i] = (byte) v;
            } else if (bits == 16) {
                numbers[i] = (short) v;
            } else {
                numbers[i] = v;
            }
        }

        /** Whether there are n numbers from one on (the sum might wrap round, the difference can't). */
        boolean hasRange(int from, int n) {
            return from >= 0 && n >= 0 && from <= length && n <= length - from;
        }
    }
}

/** The edges of promises 36 to 50: THE TAPE and TEXTS, SPOTS and SHEETS, images, counts. */
public final class HeldEdgesTest {
    public static void main(String[] args) {
        feedLowestBytes();
        wipeAndText();
        bytesOfTokens();
        tokensAsLongAsCanBe();
        numbersInTexts();
        wordsWhereTheyStand();
        endsTooEarly();
        longTexts();
        ninthPlayer();
        itemByItem();
        hold();
        as();
        sheet();
        bits();
        write();
        copy();
        load();
        judge();
        image();
        undoAndTear();
        count();
        status();
        Check.end();
    }

    private static void tells(String text, int due) {
        Check.due("text() of '" + text + "'", Check.tell(new OneShort(), text), due);
    }

    private static void fault(String text, int place) {
        tells(text, -1 - place);
    }

    // ---- texts

    private static void feedLowestBytes() {
        OneShort x = new OneShort();
        Check.due("the lowest byte", x.feed(0x6c617464, 1), 1);
        Check.due("the two lowest, the highest of these first", x.feed(0x6c616561, 2), 3);
        Check.due("a byte", x.feed('f', 1), 4);
        Check.due("the three lowest", x.feed(0x7f206f6e, 3), 7);
        Check.due("all four", x.feed(0x20313220, 4), 11);
        Check.due("count(5)", x.count(5), 11);
        Check.due("deaf on 12", x.text(), 1);
        Check.due("KIND", x.of(0, 0), 5);
        Check.due("SEAT", x.of(0, 1), 12);
        for (int b : new int[] {-1, 255, 128, Integer.MIN_VALUE, Integer.MAX_VALUE}) {
            Check.due("any number is fed", x.feed(b, 1), 1);
            Check.due("but it begins no TOKEN", x.text(), -1);
        }
        for (int n = 1; n <= 120; n++) {
            Check.due("feed one by one", x.feed('a', 1), n);
        }
        Check.due("the 121st", x.feed('a', 1), Check.FULL);
        Check.due("wipe", x.wipe(), 120);
        Check.due("feed", x.feed(0, 4), 4);
    }

    private static void wipeAndText() {
        OneShort x = new OneShort();
        Check.due("wipe of an empty one", x.wipe(), 0);
        Check.due("text of an empty one", x.text(), -1);
        Check.due("no findings", x.status(-1), 0);
        Check.feed(x, "late");
        Check.due("wipe", x.wipe(), 4);
        Check.due("count(5)", x.count(5), 0);
        Check.feed(x, "deaf");
        Check.due("text", x.text(), 1);
        Check.due("count(5)", x.count(5), 0);
        Check.due("of what was wiped nothing", x.count(1), 1);
        Check.due("text once more", x.text(), -1);
        Check.due("PLAYERS", x.count(1), 1);
    }

    /** Of all 256 bytes just a blank, letters, digits and ; are told apart; none of the others begins a TOKEN. */
    private static void bytesOfTokens() {
        for (int b = 0; b < 256; b++) {
            char c = (char) b;
            boolean letter = b >= 'a' && b <= 'z';
            boolean digit = b >= '0' && b <= '9';
            tells("bar " + c + "1 2", c == ' ' || c == '0' || c == '1' ? 1 : -1 - 4);
            tells("bar 1" + c + "2", c == ' ' ? 1 : -1 - (digit ? 4 : 5));
            tells("late" + c, c == ' ' ? 1 : -1 - (letter ? 0 : c == ';' ? 5 : 4));
            tells(c + "late", c == ' ' ? 1 : -1);
            tells("late" + c + "deaf", c == ';' ? 2 : -1 - (letter ? 0 : c == ' ' ? 5 : 4));
        }
    }

    private static void tokensAsLongAsCanBe() {
        tells("late on 1part 2loud 3nerve 4", 1);
        tells("late on1;bar 1 2;bar3 4", 3);
        fault("lateon 1", 0);
        fault("late onn 1", 5);
        fault("late o n 1", 5);
        fault("late on 1 6", 10);
        fault("late on 1 loud 1 0", 17);
        fault("ba r 1 2", 0);
        fault("barr 1 2", 0);
        fault("bar 1;2", 5);
        fault("playe", 0);
        fault("players", 0);
        fault("player player", 7);
        fault("a", 0);
        fault("zzzz", 0);
    }

    private static void numbersInTexts() {
        String[] words = {"on", "part", "loud", "nerve"};
        int[] most = {15, 5, 9, 99};
        for (int i = 0; i < words.length; i++) {
            String begin = "late " + words[i] + " ";
            for (int v : new int[] {0, 1, most[i]}) {
                OneShort x = new OneShort();
                Check.due(begin + v, Check.tell(x, begin + v), 1);
                Check.due("it is so", x.of(0, i + 1), v);
            }
            for (String v : new String[] {"" + (most[i] + 1), "100", "999", "1000", "99999999999999999999", "4294967296", "4294967297"}) {
                fault(begin + v, begin.length());
                fault(begin + v + ";", begin.length());
            }
            tells(begin + "00" + most[i], 1);
            fault(begin + "-1", begin.length());
            fault(begin + "x", begin.length());
            fault(begin + words[i], begin.length());
            fault(begin + ";", begin.length());
        }
        for (int bar = 0; bar < 12; bar++) {
            OneShort x = new OneShort();
            Check.due("bar", Check.tell(x, "bar " + bar + " " + bar), 1);
            Check.due("barOf", x.barOf(bar, 0), bar);
            Check.due("the next", x.barOf((bar + 1) % 12, 0), 63);
        }
        tells("bar 0 0", 1);
        tells("bar 11 63", 1);
        fault("bar 12 0", 4);
        fault("bar 0 64", 6);
        fault("bar 12 64", 4);
        fault("bar 999 0", 4);
        fault("bar 0 1000", 6);
        fault("bar 4294967296 0", 4);
        fault("bar 0 4294967296", 6);
        fault("bar late", 4);
        fault("bar 0 late", 6);
        fault("bar 0 0 0", 8);
        fault("bar 0 0 late", 8);
    }

    /** On, part, loud and nerve may be left out, but come in this order and once. */
    private static void wordsWhereTheyStand() {
        String[] words = {"on", "part", "loud", "nerve"};
        for (int set = 0; set < 16; set++) {
            StringBuilder text = new StringBuilder("deaf");
            for (int i = 0; i < 4; i++) {
                text.append((set >> i & 1) != 0 ? " " + words[i] + " " + (i + 1) : "");
            }
            OneShort x = new OneShort();
            Check.due(text.toString(), Check.tell(x, text.toString()), 1);
            int[] without = {0, 0, 5, 50};
            for (int i = 0; i < 4; i++) {
                Check.due("what it tells", x.of(0, i + 1), (set >> i & 1) != 0 ? i + 1 : without[i]);
            }
        }
        for (int first = 0; first < 4; first++) {
            for (int then = 0; then < 4; then++) {
                String begin = "deaf " + words[first] + " 1 ";
                tells(begin + words[then] + " 1", then > first ? 1 : -1 - begin.length());
            }
            fault("bar 1 1 " + words[first] + " 1", 8);
            fault(words[first] + " 1", 0);
            fault("deaf bar 1 1", 5);
        }
    }

    private static void endsTooEarly() {
        String whole = "late on 1 part 2 loud 3 nerve 4;bar 5 6";
        int[] ends = {4, 9, 16, 23, 31, 39};
        for (int n = 0; n < whole.length(); n++) {
            String text = whole.substring(0, n);
            boolean isWhole = false;
            for (int end : ends) {
                isWhole |= text.trim().length() == end;
            }
            boolean inWord = n > 0 && Character.isLetter(whole.charAt(n - 1)) && Character.isLetter(whole.charAt(n));
            tells(text, isWhole ? 1 : -1 - (inWord ? beginOfWord(text) : n));
            tells(text + "   ", isWhole ? 1 : -1 - (inWord ? beginOfWord(text) : n + 3));
        }
        fault("", 0);
        fault(" ", 1);
        fault("late;", 5);
        fault("late ;  ", 8);
    }

    private static int beginOfWord(String text) {
        int begin = text.length();
        while (begin > 0 && Character.isLetter(text.charAt(begin - 1))) {
            begin--;
        }
        return begin;
    }

    private static void longTexts() {
        String blanks = " ".repeat(116);
        tells("late" + blanks, 1);
        tells(blanks + "late", 1);
        fault(" ".repeat(120), 120);
        fault(" ".repeat(119) + "!", 119);
        fault("a".repeat(120), 0);
        fault("1".repeat(120), 0);
        fault("bar 0 " + "9".repeat(114), 6);
        tells("bar 0 " + "0".repeat(112) + "63", 1);
        String bars = "bar 0 1;".repeat(15);
        tells(bars.substring(0, 119), 15);
        fault(bars, 120);
        fault(bars.substring(0, 119) + "!", 119);
        fault(";".repeat(120), 0);
    }

    private static void ninthPlayer() {
        String[] words = {"player", "late", "doubling", "married", "extra", "deaf", "sleeper"};
        for (String word : words) {
            OneShort x = new OneShort();
            for (int p = 0; p < 7; p++) {
                x.player(0, p);
            }
            Check.due("the 8th", Check.tell(x, word + " on 9"), 1);
            Check.due("its SEAT", x.of(7, 1), 9);
            Check.due("the 9th", Check.tell(x, word), -1);
            Check.due("the 9th, its own WORD", Check.tell(x, "bar 0 1; " + word + " on 99;!"), -1 - 9);
            Check.due("a FAULT ahead of it", Check.tell(x, "bar 0 64;" + word), -1 - 6);
            Check.due("BARS yet", Check.tell(x, "bar 0 7"), 1);
            Check.due("PLAYERS", x.count(1), 8);
            Check.due("no finding", x.status(-1), 0);
        }
        OneShort seven = new OneShort();
        for (int p = 0; p < 7; p++) {
            seven.player(0, p);
        }
        Check.due("an 8th and a 9th", Check.tell(seven, "late on 3;deaf"), -1 - 10);
        Check.due("not even the 8th came", seven.count(1), 7);
        Check.due("it comes by itself", Check.tell(seven, "late on 3"), 1);
    }

    private static void itemByItem() {
        OneShort x = new OneShort();
        x.player(6, 14);
        x.hold(2, 0);
        Check.due("ITEMS", Check.tell(x, "bar 2 5;deaf on 3;bar 2 6;late on 4;bar 3 1"), 5);
        Check.due("PLAYERS behind those that there were", x.count(1), 3);
        Check.due("KIND", x.of(0, 0), 6);
        Check.due("KIND", x.of(1, 0), 5);
        Check.due("KIND", x.of(2, 0), 1);
        Check.due("SEAT", x.of(2, 1), 4);
        Check.due("the later one", x.barOf(2, 0), 6);
        Check.due("BAR 3", x.barOf(3, 0), 1);
        Check.due("SPOTS stay", x.as(2, 6), 0);
        Check.due("z stays", x.count(6), 1);
        Check.due("a FAULT in the last of them", Check.tell(x, "bar 2 0;deaf on 15;bar 3 0;late on 16"), -1 - 35);
        Check.due("BARS stay", x.barOf(2, 0) + 64 * x.barOf(3, 0), 6 + 64);
        Check.due("PLAYERS stay", x.count(1), 3);
        Check.due("what the FAULT was in isn't left behind", x.player(0, 9), 3);
        Check.due("LOUD", x.of(3, 3), 5);
    }

    // ---- spots, sheets

    private static void hold() {
        OneShort x = Check.orchestra("player;player;player;player;player;player;player;player");
        for (int spot = 0; spot < 10; spot++) {
            Check.due("nothing at first", x.as(spot, 0), Check.MISSING);
            Check.due("hold the last", x.hold(spot, 7), 1);
            Check.due("count(7)", x.count(7), spot + 1);
            Check.due("as", x.as(spot, 0), 7);
        }
        for (int spot = 0; spot < 10; spot++) {
            Check.due("hold another one", x.hold(spot, spot % 8), 1);
            Check.due("as", x.as(spot, 0), spot % 8);
        }
        Check.due("all hold something", x.count(7), 10);
        for (int spot = 9; spot >= 0; spot--) {
            Check.due("hold nothing", x.hold(spot, -1), 1);
            Check.due("count(7)", x.count(7), spot);
            Check.due("as", x.as(spot, 0), Check.MISSING);
            Check.due("hold nothing again", x.hold(spot, -1), 1);
        }
        Check.due("nothing can be held without PLAYERS, too", new OneShort().hold(9, -1), 1);
    }

    private static void as() {
        OneShort x = new OneShort();
        x.player(0, 0);
        x.hold(9, 0);
        int[][] under = {{0}, {0, 1}, {0, 2}, {0, 2, 3}, {0, 2, 3, 4}, {0, 5}, {0, 1, 6}};
        for (int kind = 0; kind < 7; kind++) {
            x.change(0, 0, kind);
            for (int as = 0; as < 7; as++) {
                boolean is = false;
                for (int u : under[kind]) {
                    is |= u == as;
                }
                Check.due("KIND " + kind + " as " + as, x.as(9, as), is ? 0 : Check.KIND);
            }
        }
        Check.due("status(2)", x.status(2), 49 - 17);
    }

    private static void sheet() {
        OneShort x = new OneShort();
        for (int s = 0; s < 4; s++) {
            Check.due("MISSING at first", x.load(s), Check.MISSING);
            for (int bits = 8; bits <= 32; bits *= 2) {
                Check.due("none", x.sheet(s, bits, 0), 0);
                Check.due("it isn't MISSING", x.load(s), 0);
                Check.due("40", x.sheet(s, bits, 40), 40);
                Check.due("the last", x.write(s, 39, 1), 1);
                Check.due("behind the last", x.write(s, 40, 1), Check.BEYOND);
                Check.due("one", x.sheet(s, bits, 1), 1);
                Check.due("the last", x.write(s, 0, 9), 1);
                Check.due("behind the last", x.write(s, 1, 1), Check.BEYOND);
            }
            Check.due("MISSING, and 0", x.sheet(s, 0, 40), 0);
            Check.due("it is", x.load(s), Check.MISSING);
            Check.due("still MISSING, and 0", x.sheet(s, 0, 0), 0);
        }
        Check.fill(x, 0, 8, 9, 9, 9, 9);
        Check.due("fewer numbers", x.sheet(0, 8, 2), 2);
        Check.due("more numbers", x.sheet(0, 8, 4), 4);
        Check.due("load", x.load(0), 4);
        for (int bar = 0; bar < 4; bar++) {
            Check.due("all 0", x.barOf(bar, 0), 0);
        }
        Check.due("the next", x.barOf(4, 0), 63);
        x.sheet(0, 8, 40);
        x.write(0, 39, 9);
        x.sheet(0, 8, 40);
        Check.due("the last", x.copy(0, 39, 0, 0, 1), 1);
        x.load(0);
        Check.due("0, too", x.barOf(0, 0), 0);
        Check.fill(x, 0, 8, 9);
        x.sheet(0, 0, 1);
        x.sheet(0, 8, 1);
        x.load(0);
        Check.due("0 behind it was MISSING, too", x.barOf(0, 0), 0);
    }

    /** What a number is by its bits: 0 to 63 is told by load, -1 (any) by fits. */
    private static void bits() {
        int[][] rows = {
            {8, 255, -1}, {8, 511, -1}, {8, 256, 0}, {8, 256 + 63, 63}, {8, 64, 64}, {8, 127, 64}, {8, 128, 64}, {8, -1, -1}, {8, -256, 0},
            {8, -193, 63}, {8, -2, 64}, {8, Integer.MIN_VALUE, 0}, {8, Integer.MAX_VALUE, -1}, {8, 65535, -1},
            {16, 255, 64}, {16, 256, 64}, {16, 65535, -1}, {16, 65536, 0}, {16, 65536 + 63, 63}, {16, 32767, 64}, {16, 32768, 64},
            {16, -1, -1}, {16, -65536, 0}, {16, Integer.MAX_VALUE, -1}, {16, Integer.MIN_VALUE, 0}, {16, 131071, -1},
            {32, 255, 64}, {32, 65535, 64}, {32, 65536, 64}, {32, -1, -1}, {32, 63, 63}, {32, 64, 64}, {32, -65536, 64}, {32, -256, 64},
            {32, Integer.MIN_VALUE, 64}, {32, Integer.MAX_VALUE, 64}};
        for (int[] row : rows) {
            OneShort x = Check.orchestra("player loud 0 nerve 99");
            Check.fill(x, 1, row[0], row[1]);
            String what = row[1] + " of " + row[0] + " bits";
            boolean isBar = row[2] >= 0 && row[2] < 64;
            Check.due("any: " + what, x.fits(1, 0), row[2] == -1 ? 63 : 0);
            Check.due("load: " + what, x.load(1), isBar ? 1 : 0);
            Check.due("BAR: " + what, x.barOf(0, 0), isBar ? row[2] : 63);
        }
    }

    private static void write() {
        OneShort x = new OneShort();
        x.sheet(3, 32, 40);
        for (int i = 0; i < 40; i++) {
            Check.due("write", x.write(3, i, i), 1);
        }
        Check.due("write over", x.write(3, 5, 63), 1);
        Check.due("load", x.load(3), 12);
        for (int bar = 0; bar < 12; bar++) {
            Check.due("number " + bar, x.barOf(bar, 0), bar == 5 ? 63 : bar);
        }
        x.sheet(2, 32, 12);
        Check.due("copy", x.copy(3, 28, 2, 0, 12), 12);
        Check.due("load", x.load(2), 12);
        for (int bar = 0; bar < 12; bar++) {
            Check.due("number " + (28 + bar), x.barOf(bar, 0), 28 + bar);
        }
    }

    private static void copy() {
        OneShort x = new OneShort();
        Check.fill(x, 0, 8, 10, 11, 12, 13, 14);
        Check.fill(x, 1, 8, 20, 21, 22);
        Check.due("none", x.copy(0, 0, 1, 0, 0), 0);
        Check.due("none from the end to the end", x.copy(0, 5, 1, 3, 0), 0);
        Check.due("none, behind the end", x.copy(0, 6, 1, 0, 0), Check.BEYOND);
        Check.due("none, to behind the end", x.copy(0, 0, 1, 4, 0), Check.BEYOND);
        numbers(x, 1, 20, 21, 22);
        Check.due("the last to the last", x.copy(0, 4, 1, 2, 1), 1);
        numbers(x, 1, 20, 21, 14);
        Check.due("the first to the first", x.copy(0, 0, 1, 0, 1), 1);
        numbers(x, 1, 10, 21, 14);
        Check.due("as many as there are", x.copy(0, 2, 1, 0, 3), 3);
        numbers(x, 1, 12, 13, 14);
        numbers(x, 0, 10, 11, 12, 13, 14);
        Check.due("upward onto itself", x.copy(0, 0, 0, 1, 4), 4);
        numbers(x, 0, 10, 10, 11, 12, 13);
        Check.due("downward onto itself", x.copy(0, 1, 0, 0, 4), 4);
        numbers(x, 0, 10, 11, 12, 13, 13);
        Check.due("all onto itself", x.copy(0, 0, 0, 0, 5), 5);
        numbers(x, 0, 10, 11, 12, 13, 13);
        for (int bits = 16; bits <= 32; bits *= 2) {
            x.sheet(2, bits, 40);
            x.sheet(3, bits, 40);
            x.write(2, 0, 40);
            x.write(2, 39, 1);
            Check.due("all 40", x.copy(2, 0, 3, 0, 40), 40);
            Check.due("the last one has come", x.copy(3, 39, 3, 1, 1), 1);
            x.load(3);
            Check.due("as the first one has", x.barOf(0, 0), 40);
            Check.due("as the first one has", x.barOf(1, 0), 1);
        }
    }

    private static void numbers(OneShort x, int s, int... due) {
        Check.due("load", x.load(s), due.length);
        for (int i = 0; i < due.length; i++) {
            Check.due("number " + i, x.barOf(i, 0), due[i]);
        }
    }

    private static void load() {
        OneShort x = new OneShort();
        Check.fill(x, 0, 16);
        Check.due("no numbers", x.load(0), 0);
        Check.due("BAR 0", x.barOf(0, 0), 63);
        Check.fill(x, 0, 16, 64, 1);
        Check.due("the first is 64", x.load(0), 0);
        Check.fill(x, 0, 16, -1, 1);
        Check.due("the first is -1", x.load(0), 0);
        Check.due("BARS stay", x.barOf(0, 0) + x.barOf(1, 0), 126);
        Check.fill(x, 0, 16, 0, 63, 1, -1, 2);
        Check.due("it ends at -1", x.load(0), 3);
        int[] due = {0, 63, 1, 63, 63};
        for (int bar = 0; bar < due.length; bar++) {
            Check.due("BAR " + bar, x.barOf(bar, 0), due[bar]);
        }
        for (int n = 11; n <= 40; n++) {
            x.sheet(1, 8, n);
            Check.due("of " + n + " numbers", x.load(1), Math.min(n, 12));
        }
        x.write(1, 11, 64);
        Check.due("the last for which there is a BAR", x.load(1), 11);
        x.write(1, 11, 5);
        x.write(1, 12, 64);
        Check.due("the first for which there is none", x.load(1), 12);
        Check.due("BAR 11", x.barOf(11, 0), 5);
        Check.due("no finding", x.status(-1), 0);
    }

    private static void judge() {
        OneShort x = Check.orchestra("player;player on 1;player on 9;deaf on 2;player;player;player;player on 2 part 1");
        for (int bar = 0; bar < 12; bar++) {
            x.bar(bar, bar == 11 ? 1 : 0);
        }
        judged(x, 0);
        judged(x, 0, 0);
        judged(x, 0, 6);
        judged(x, 0, 7);
        judged(x, 1, 8);
        judged(x, 1, -1);
        judged(x, 2, 0, 8);
        judged(x, 2, 0, -1);
        judged(x, 2, 0, 0);
        judged(x, 0, 0, 1, 0, 1);
        judged(x, 2, 0, 2);
        judged(x, 3, 0, 1, 2);
        judged(x, 2, 1, 3);
        judged(x, 0, 3, 1);
        judged(x, 2, 7, 1);
        judged(x, 0, 1, 7);
        x.bar(0, 2);
        judged(x, 0, 7, 1, 7);
        Check.due("one sheet for a row of 40", x.sheet(0, 8, 40), 40);
        for (int i = 0; i < 40; i++) {
            x.write(0, i, i % 2);
        }
        Check.due("all 40", x.judge(0), 0);
        x.write(0, 39, 2);
        Check.due("the last isn't so", x.judge(0), 40);
        Check.due("no finding", x.status(-1), 0);
        OneShort none = new OneShort();
        none.sheet(0, 8, 0);
        Check.due("without PLAYERS and numbers", none.judge(0), 0);
        none.sheet(0, 8, 1);
        Check.due("without PLAYERS", none.judge(0), 1);
    }

    private static void judged(OneShort x, int due, int... row) {
        Check.fill(x, 0, 16, row);
        Check.due("judge", x.judge(0), due);
    }

    // ---- images

    private static void image() {
        OneShort x = Check.orchestra("player on 1 part 2 loud 3 nerve 4");
        x.seed(-9);
        x.bar(11, 1);
        x.hold(9, 0);
        Check.due("image()", x.image(), 1);
        for (int what = 0; what < 5; what++) {
            x.change(0, what, 5);
            Check.due("undo()", x.undo(), 0);
            Check.due("what " + what, x.of(0, what), what);
        }
        x.seed(8);
        x.bar(11, 2);
        x.hold(9, -1);
        x.hold(0, 0);
        x.player(1, 1);
        x.go(3);
        Check.due("undo()", x.undo(), 0);
        Check.due("z", x.count(6), -9);
        Check.due("BAR 11", x.barOf(11, 0), 1);
        Check.due("SPOT 9", x.as(9, 0), 0);
        Check.due("SPOT 0", x.as(0, 0), Check.MISSING);
        Check.due("PLAYERS", x.count(1), 1);
        Check.due("EVENING", x.now(0), 0);
        Check.due("NERVE", x.of(0, 4), 4);
        for (int p = 1; p < 8; p++) {
            x.player(6, 15);
            x.change(p, 2, 5);
        }
        x.image();
        for (int what = 0; what < 5; what++) {
            x.change(7, what, 1);
        }
        x.undo();
        int[] due = {6, 15, 5, 5, 50};
        for (int what = 0; what < 5; what++) {
            Check.due("of the last one what " + what, x.of(7, what), due[what]);
        }
        // THE TAPE and SHEETS are neither kept nor brought back.
        Check.fill(x, 2, 8, 7);
        Check.feed(x, "late");
        x.image();
        x.wipe();
        x.sheet(2, 0, 0);
        x.undo();
        Check.due("THE TAPE stays empty", x.count(5), 0);
        Check.due("the sheet stays MISSING", x.load(2), Check.MISSING);
        Check.fill(x, 1, 16, 9);
        Check.feed(x, "deaf");
        x.undo();
        Check.due("THE TAPE stays", x.count(5), 4);
        Check.due("the sheet stays", x.load(1), 1);
        Check.due("BAR 0", x.barOf(0, 0), 9);
    }

    private static void undoAndTear() {
        OneShort x = new OneShort();
        Check.due("undo() of nothing", x.undo(), Check.NONE);
        Check.due("tear() of nothing", x.tear(), 0);
        x.go(4);
        x.image();
        x.go(20);
        Check.due("undo()", x.undo(), 4);
        x.go(1);
        x.image();
        x.image();
        x.go(3);
        Check.due("the latest", x.undo(), 5);
        Check.due("it stays", x.undo(), 5);
        Check.due("tear()", x.tear(), 1);
        Check.due("it is no more", x.undo(), Check.NONE);
        Check.due("nor anything older", x.tear(), 0);
        Check.due("what is stays", x.now(0), 5);
        x.image();
        x.go(2);
        Check.due("kept once more", x.undo(), 5);
        Check.due("tear()", x.tear(), 1);
        Check.due("status(3)", x.status(3), 2);
        Check.due("status(-1)", x.status(-1), 2);
    }

    private static void count() {
        OneShort x = new OneShort();
        int[] none = {0, 0, 0, 0, 0, 0, 1, 0};
        for (int what = 0; what < 8; what++) {
            Check.due("count(" + what + ") of a new one", x.count(what), none[what]);
        }
        for (int p = 0; p < 8; p++) {
            x.player(0, 0);
            x.change(p, 3, 9);
            x.change(p, 4, 99);
        }
        Check.due("LOUD, the most there can be", x.count(3), 72);
        Check.due("NERVE, the most there can be", x.count(4), 792);
        Check.due("nobody of NERVE 0", x.count(2), 0);
        for (int p = 0; p < 8; p++) {
            x.change(p, 4, p == 3 ? 1 : 0);
        }
        Check.due("how many, not a set", x.count(2), 7);
        Check.due("NERVE", x.count(4), 1);
        x.feed(0, 4);
        x.feed(0, 3);
        x.go(20);
        x.seed(Integer.MIN_VALUE);
        x.hold(0, 7);
        x.hold(9, 7);
        x.hold(5, -1);
        Check.due("EVENING", x.count(0), 20);
        Check.due("PLAYERS", x.count(1), 8);
        Check.due("bytes of THE TAPE", x.count(5), 7);
        Check.due("z", x.count(6), Integer.MIN_VALUE);
        Check.due("SPOTS", x.count(7), 2);
    }

    private static void status() {
        OneShort x = new OneShort();
        for (int which = -1; which < 7; which++) {
            Check.due("status(" + which + ") of a new one", x.status(which), 0);
        }
        x.undo();
        x.load(0);
        x.sheet(0, 8, -1);
        x.bar(12, 0);
        x.odds(15, 0);
        int[] due = {2, 0, 0, 1, 0, 1, 1};
        for (int which = 0; which < 7; which++) {
            Check.due("status(" + which + ")", x.status(which), due[which]);
        }
        Check.due("all", x.status(-1), 5);
        Check.due("status(7)", x.status(7), Check.BEYOND);
        Check.due("status(-2)", x.status(-2), Check.BEYOND);
        Check.due("these, too", x.status(0), 4);
        Check.due("all", x.status(-1), 7);
        x.image();
        x.of(0, 0);
        x.undo();
        Check.due("undo() takes none back", x.status(0), 5);
        Check.due("nor a new kept image", x.image() + x.status(-1), 9);
    }
}

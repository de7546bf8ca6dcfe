/** "Terms" 1 and 2: kinds, sound, who hears whom, what an evening does, draws; each at its edges. */
public final class TermsTest {
    private static final int ALL = 4095;

    public static void main(String[] args) {
        atFirst();
        inBarsOfItsPart();
        lateAndSleeper();
        doubling();
        married();
        extra();
        deafPlays();
        soundByDistance();
        heardIsTheGreatest();
        hearsWithinSound();
        deafHears();
        nobodyHearsItself();
        nerveIsHeld();
        nerveBarByBar();
        byWhatAllIsThen();
        lessLoud();
        draws();
        anyNumberIsNoFinding();
        Check.end();
    }

    /** Of these PARTS in these BARS, and of none in all others. */
    private static void bars(OneShort x, int... parts) {
        for (int bar = 0; bar < 12; bar++) {
            x.bar(bar, bar < parts.length ? parts[bar] : 0);
        }
    }

    private static void nerveAndLoud(String what, OneShort x, int player, int nerve, int loud) {
        Check.due("NERVE: " + what, x.of(player, 4), nerve);
        Check.due("LOUD: " + what, x.of(player, 3), loud);
    }

    private static void atFirst() {
        OneShort x = new OneShort();
        OneShort other = new OneShort();
        for (int bar = 0; bar < 12; bar++) {
            Check.due("PARTS of BAR " + bar, x.barOf(bar, 0), 63);
            Check.due("HEARD in BAR " + bar, x.heard(bar, bar), 0);
        }
        for (int p = 0; p < 8; p++) {
            Check.due("several may be on one SEAT", x.player(p % 7, 15), p);
            Check.due("PART", x.of(p, 2), 0);
            Check.due("LOUD", x.of(p, 3), 5);
            Check.due("NERVE", x.of(p, 4), 50);
            Check.due("SEAT", x.of(p, 1), 15);
        }
        x.bar(0, 0);
        x.go(1);
        x.seed(9);
        x.image();
        x.sheet(0, 8, 1);
        x.feed(0, 1);
        Check.due("another orchestra has no PLAYERS", other.count(1), 0);
        Check.due("another orchestra has other BARS", other.barOf(0, 0), 63);
        Check.due("another orchestra has another EVENING", other.count(0), 0);
        Check.due("another orchestra has another z", other.count(6), 1);
        Check.due("another orchestra has another TAPE", other.count(5), 0);
        Check.due("another orchestra has nothing kept", other.tear(), 0);
        Check.due("another orchestra has other SHEETS", other.judge(0), Check.MISSING);
    }

    private static void inBarsOfItsPart() {
        OneShort x = Check.orchestra("player nerve 99");
        bars(x, 1, 2, 4, 8, 16, 32, 62, 61, 59, 55, 47, 31);
        for (int part = 0; part < 6; part++) {
            x.change(0, 2, part);
            Check.due("BARS of PART " + part, x.of(0, 5), 1 << part | 0xFC0 & ~(64 << part));
        }
    }

    private static void lateAndSleeper() {
        OneShort x = Check.orchestra("late nerve 99;sleeper nerve 99");
        Check.due("LATE, in all but BARS 0 to 2", x.of(0, 5), 0xFF8);
        Check.due("SLEEPER, odd BARS from 3 on", x.of(1, 5), 0xAA8);
        for (int bar = 0; bar < 12; bar++) {
            boolean isLateThere = bar >= 3;
            Check.due("who PLAYS in BAR " + bar, x.barOf(bar, 1), isLateThere ? bar % 2 == 1 ? 3 : 1 : 0);
        }
        x.change(0, 2, 5);
        x.change(1, 2, 5);
        bars(x, 63, 63, 63, 31, 32, 32, 31, 31, 63, 63, 1, 32);
        Check.due("LATE, of its PART alone", x.of(0, 5), 16 + 32 + 256 + 512 + 2048);
        Check.due("SLEEPER, of its PART alone", x.of(1, 5), 32 + 512 + 2048);
    }

    private static void doubling() {
        OneShort x = Check.orchestra("doubling");
        bars(x, 1, 2, 4, 8, 16, 32);
        for (int part = 0; part < 6; part++) {
            x.change(0, 2, part);
            Check.due("DOUBLING of PART " + part, x.of(0, 5), 1 << part | 1 << (part + 1) % 6);
        }
    }

    private static void married() {
        OneShort x = Check.orchestra("married;player part 1;player part 1");
        Check.due("of PART 0 itself, but no other one", x.of(0, 5), 0);
        for (int other = 1; other < 3; other++) {
            for (int part = 0; part < 6; part++) {
                x.change(other, 2, part);
                Check.due("another one of PART " + part, x.of(0, 5), part == 0 ? ALL : 0);
            }
            x.change(other, 2, 1);
        }
        bars(x, 1, 2, 4, 8, 16, 32);
        x.change(1, 2, 0);
        for (int part = 0; part < 6; part++) {
            x.change(0, 2, part);
            Check.due("MARRIED of PART " + part, x.of(0, 5), 1 << part | 1 << (part + 1) % 6);
        }
        x.change(0, 2, 3);
        x.change(1, 0, 6);
        Check.due("though the other one never PLAYS", x.of(1, 5) == 0 ? x.of(0, 5) : -1, 24);
        x.change(1, 0, 3);
        x.change(2, 2, 3);
        Check.due("the other one is MARRIED, and there is none for it", x.of(1, 5), 0);
        Check.due("two MARRIED, one of PART 0", x.of(0, 5), 24);
        x.change(0, 2, 0);
        Check.due("two MARRIED, both of PART 0", x.of(0, 5) + 64 * x.of(1, 5), 3 + 64 * 3);
        OneShort last = Check.orchestra("player part 1;player part 1;player part 1;player part 1;player part 1;player part 1;player part 1");
        last.player(3, 0);
        Check.due("the last one of PART 0 alone", last.of(7, 5), 0);
        last.change(0, 2, 0);
        Check.due("the first one is another one", last.of(7, 5), ALL);
        last.change(0, 0, 3);
        last.change(7, 0, 0);
        last.change(0, 2, 4);
        Check.due("the last one is another one", last.of(0, 5), ALL);
    }

    private static void extra() {
        OneShort x = Check.orchestra("extra part 2 nerve 79;player part 1");
        bars(x, 1, 2, 4, 8, 16, 32);
        Check.due("NERVE 79, no one of PART 0", x.of(0, 5), 0);
        x.change(1, 2, 0);
        Check.due("NERVE 79, as MARRIED", x.of(0, 5), 12);
        x.change(0, 4, 80);
        Check.due("NERVE 80, in all BARS", x.of(0, 5), ALL);
        x.change(1, 2, 1);
        Check.due("NERVE 80, no one of PART 0", x.of(0, 5), ALL);
        x.change(0, 4, 99);
        Check.due("NERVE 99", x.of(0, 5), ALL);
        x.change(0, 4, 0);
        Check.due("NERVE 0", x.of(0, 5), 0);
        x.change(0, 4, 80);
        x.change(0, 2, 0);
        bars(x, 2, 2, 2, 2, 2, 2, 2, 2, 2, 2, 2, 2);
        Check.due("12 BARS in company", x.ahead(0, 1), 92);
        bars(x);
        Check.due("alone in BAR 0, then it has 77", x.ahead(0, 1), 77);
        x.change(0, 4, 99);
        Check.due("alone in BARS 0 to 6, then it has 78", x.ahead(0, 1), 78);
        x.change(0, 4, 80);
        int[] due = {0, 0, 0, 0, ALL, 0, 0};
        for (int kind = 0; kind < 7; kind++) {
            x.change(0, 0, kind);
            Check.due("NERVE 80, without PARTS, of KIND " + kind, x.of(0, 5), due[kind]);
        }
    }

    private static void deafPlays() {
        OneShort x = Check.orchestra("deaf part 5 nerve 99");
        bars(x, 32, 31, 63, 1, 2, 4, 8, 16, 0, 0, 0, 32);
        Check.due("DEAF, as a PLAYER", x.of(0, 5), 1 + 4 + 2048);
    }

    private static void soundByDistance() {
        OneShort x = Check.orchestra("player on 0;player on 15;late on 7 loud 9");
        for (int loud = 0; loud < 10; loud++) {
            x.change(0, 3, loud);
            x.change(1, 3, loud);
            for (int seat = 0; seat < 16; seat++) {
                Check.due("from below", x.sound(0, seat, 0), seat < loud ? loud - seat : 0);
                Check.due("from above", x.sound(1, 15 - seat, 11), seat < loud ? loud - seat : 0);
            }
        }
        Check.due("it doesn't PLAY", x.sound(2, 7, 2), 0);
        Check.due("it does", x.sound(2, 7, 3), 9);
    }

    private static void heardIsTheGreatest() {
        OneShort x = new OneShort();
        for (int p = 0; p < 8; p++) {
            x.player(0, 15);
            x.change(p, 3, p);
            Check.due("the last is the loudest", x.heard(15, 0), p);
        }
        Check.due("of those on other seats", x.heard(14, 0), 6);
        x.change(7, 0, 1);
        Check.due("not of one that doesn't PLAY", x.heard(15, 2), 6);
        Check.due("not in another BAR", x.heard(15, 3), 7);
        Check.due("not that far", x.heard(8, 3), 0);
        Check.due("just so far", x.heard(9, 3), 1);
        x.change(0, 3, 9);
        Check.due("the first is the loudest", x.heard(15, 0), 9);
        bars(x, 62);
        Check.due("nobody PLAYS", x.heard(15, 0), 0);
    }

    private static void hearsWithinSound() {
        for (int loud = 0; loud < 10; loud++) {
            OneShort x = Check.orchestra("player;player part 1");
            x.change(1, 3, loud);
            for (int far = 0; far < 10; far++) {
                x.change(0, 1, 3);
                x.change(1, 1, 3 + far);
                Check.due("one above", x.hears(0, 1), far < loud ? ALL : 0);
                x.change(0, 1, 12);
                x.change(1, 1, 12 - far);
                Check.due("one below", x.hears(0, 1), far < loud ? ALL : 0);
            }
        }
        OneShort x = Check.orchestra("player;player part 1");
        bars(x, 2, 1, 3, 0, 0, 0, 0, 0, 0, 0, 1, 2);
        Check.due("in BARS in which the other one PLAYS, whether it PLAYS itself or not", x.hears(0, 1), 1 + 4 + 2048);
        Check.due("the other way round", x.hears(1, 0), 2 + 4 + 1024);
    }

    private static void deafHears() {
        OneShort x = Check.orchestra("deaf on 7 loud 0;player on 6 part 1 loud 9");
        int[] due = {0, ALL, ALL};
        for (int kind = 0; kind < 7; kind++) {
            x.change(0, 0, kind);
            for (int seat = 6; seat < 9; seat++) {
                x.change(1, 1, seat);
                Check.due("KIND " + kind + ", the other one on " + seat, x.hears(0, 1), kind == 5 ? due[seat - 6] : ALL);
                Check.due("whom", x.hearing(0, 0), kind == 5 && seat == 6 ? 0 : 2);
                Check.due("hears nobody", x.of(0, 6), kind == 5 && seat == 6 ? ALL : 0);
            }
            x.change(0, 2, 0);
            x.change(1, 2, 0);
        }
        x.change(0, 0, 0);
        x.change(1, 0, 5);
        x.change(0, 3, 9);
        x.change(1, 1, 9);
        Check.due("a DEAF one is heard from a lesser SEAT", x.hears(0, 1), ALL);
        Check.due("and hears nobody there", x.hears(1, 0), 0);
        x.change(1, 1, 0);
        Check.due("at SEAT 0 nobody is on a lesser one", x.hears(1, 0), ALL);
    }

    private static void nobodyHearsItself() {
        OneShort x = Check.orchestra("player on 4 loud 9");
        Check.due("whom", x.hearing(0, 0), 0);
        Check.due("BARS alone", x.of(0, 6), ALL);
        Check.due("links", x.links(), 0);
        x.go(1);
        Check.due("12 times 3 less", x.of(0, 4), 14);
    }

    private static void nerveIsHeld() {
        OneShort x = Check.orchestra("player on 3;player on 3 part 1 loud 9;player on 15 part 2 loud 0");
        bars(x, 3);
        int[] before = {0, 1, 97, 98, 99};
        int[] heard = {1, 2, 98, 99, 99};
        for (int i = 0; i < before.length; i++) {
            x.change(0, 4, before[i]);
            Check.due("ahead of one that HEARS, from " + before[i], x.ahead(0, 1), heard[i]);
        }
        bars(x, 4);
        int[] low = {0, 1, 2, 3, 4, 99};
        int[] alone = {0, 0, 0, 0, 1, 96};
        for (int i = 0; i < low.length; i++) {
            x.change(2, 4, low[i]);
            Check.due("ahead of one that HEARS nobody, from " + low[i], x.ahead(2, 1), alone[i]);
        }
        x.change(0, 4, 33);
        Check.due("one that doesn't PLAY keeps it", x.ahead(0, 40), 33);
        Check.due("though it could HEAR", x.ahead(1, 40), 50);
    }

    /** BARS go from 0 to 11, and NERVE is held in each. */
    private static void nerveBarByBar() {
        OneShort x = Check.orchestra("player on 3 nerve 2;player on 3 part 1");
        bars(x, 1, 3);
        x.go(1);
        nerveAndLoud("2 less 3 is 0, and 1 more", x, 0, 1, 5);
        x.change(0, 4, 2);
        bars(x, 3, 1);
        x.go(1);
        nerveAndLoud("2 and 1 more less 3 is 0", x, 0, 0, 4);
        x.change(0, 4, 99);
        x.go(1);
        nerveAndLoud("99 held, less 3", x, 0, 96, 4);
        x.change(0, 4, 98);
        bars(x, 1, 3, 3, 3, 3, 3, 3, 3, 3, 3, 3, 3);
        x.go(1);
        nerveAndLoud("95 and 11 more is held at 99", x, 0, 99, 4);
        bars(x, 3, 3, 3, 3, 3, 3, 3, 3, 3, 3, 3, 1);
        x.change(0, 4, 99);
        x.go(1);
        nerveAndLoud("alone in BAR 11", x, 0, 96, 4);
    }

    private static void byWhatAllIsThen() {
        // The brave one PLAYS in BAR 0 with NERVE 80, and has 77 behind it: no more in BAR 1.
        for (String text : new String[] {"extra nerve 80;player on 1 part 2 loud 0", "player on 1 part 2 loud 0;extra nerve 80"}) {
            OneShort x = Check.orchestra(text);
            int brave = x.of(0, 0) == 4 ? 0 : 1;
            bars(x, 4, 4);
            x.go(1);
            Check.due("the brave one, number " + brave, x.of(brave, 4), 77);
            Check.due("who HEARS it in BAR 0 and not in BAR 1", x.of(1 - brave, 4), 48);
        }
        // With 79 it is as MARRIED; it HEARS the other one in BAR 0, has 80, and PLAYS where nothing is written.
        for (String text : new String[] {"extra nerve 79;player on 1", "player on 1;extra nerve 79"}) {
            OneShort x = Check.orchestra(text);
            int brave = x.of(0, 0) == 4 ? 0 : 1;
            bars(x, 1);
            x.go(1);
            Check.due("80 behind BAR 0, 77 behind BAR 1", x.of(brave, 4), 77);
            Check.due("the other one PLAYS in BAR 0 alone", x.of(1 - brave, 4), 51);
        }
    }

    private static void lessLoud() {
        OneShort x = Check.orchestra("player nerve 3;player part 1 loud 2 nerve 0;player part 2 loud 0 nerve 0;player part 3 loud 9 nerve 1");
        bars(x, 1, 3);
        x.go(1);
        nerveAndLoud("0 behind BAR 0, but not behind the last", x, 0, 1, 5);
        nerveAndLoud("it HEARS in BAR 1", x, 1, 1, 2);
        nerveAndLoud("LOUD is 0 at least", x, 2, 0, 0);
        nerveAndLoud("NERVE 1", x, 3, 1, 9);
        x.change(3, 4, 0);
        bars(x);
        x.go(1);
        nerveAndLoud("one that doesn't PLAY is less LOUD, too", x, 3, 0, 8);
        x.go(7);
        nerveAndLoud("each EVENING by 1", x, 3, 0, 1);
        x.go(1);
        nerveAndLoud("to 0", x, 3, 0, 0);
        x.go(20);
        nerveAndLoud("and no less", x, 3, 0, 0);
        Check.due("EVENINGS", x.now(0), 30);
        OneShort last = Check.orchestra("player on 3 loud 1 nerve 0;player on 3 part 1 loud 0 nerve 9");
        bars(last, 2, 0, 0, 0, 0, 0, 0, 0, 0, 0, 0, 3);
        last.go(1);
        Check.due("it still sounds in BAR 11", last.of(1, 4), 9 - 3 + 1);
        Check.due("and no more behind it", last.of(0, 3), 0);
        last.go(1);
        Check.due("nor in the next EVENING", last.of(1, 4), 7 - 3 - 3);
    }

    /** z goes on as an int, and a draw is z >>> 8: of a z below 0, too. */
    private static void draws() {
        OneShort x = Check.orchestra("player;player;player;player;player;player;player;player");
        Check.due("z", x.count(6), 1);
        int z = 1;
        int hits = 0;
        int below0 = 0;
        for (int i = 0; i < 100; i++) {
            z = (int) (z * 1103515245L + 12345L);
            int rest = (z >>> 8) % 16;
            Check.due("hit by draw " + i, x.strings(1), rest < 8 ? 1 : 0);
            Check.due("z", x.count(6), z);
            hits += rest < 8 ? 1 : 0;
            below0 += z < 0 && rest < 8 && rest > 0 ? 1 : 0;
        }
        Check.due("some are hit, some aren't", hits > 30 && hits < 70 ? 1 : 0, 1);
        Check.due("some by a z below 0", below0 > 10 ? 1 : 0, 1);
        for (int seed : new int[] {0, -1, Integer.MIN_VALUE, Integer.MAX_VALUE}) {
            x.seed(seed);
            x.strings(1);
            Check.due("z from " + seed, x.count(6), (int) (seed * 1103515245L + 12345L));
        }
    }

    private static void anyNumberIsNoFinding() {
        OneShort x = new OneShort();
        int was = 1;
        for (int z : new int[] {-1000001, -1000002, -1000004, -1000007, -1000008, Integer.MIN_VALUE, Integer.MAX_VALUE, 0}) {
            Check.due("seed(" + z + ")", x.seed(z), was);
            Check.due("count(6)", x.count(6), z);
            was = z;
        }
        Check.due("status(-1)", x.status(-1), 0);
    }
}

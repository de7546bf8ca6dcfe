/** Promises 8 to 11: what is heard. */
public final class HearingTest {
    public static void main(String[] args) {
        sound();
        heard();
        hears();
        hearing();
        Check.end();
    }

    private static void sound() {
        OneShort x = Check.orchestra("player on 5 loud 3;bar 1 62");
        int[] due = {0, 0, 0, 1, 2, 3, 2, 1, 0, 0, 0, 0, 0, 0, 0, 0};
        for (int seat = 0; seat < 16; seat++) {
            Check.due("sound at " + seat, x.sound(0, seat, 0), due[seat]);
            Check.due("sound in another bar", x.sound(0, seat, 1), 0);
        }
        Check.due("sound(1, 0, 0)", x.sound(1, 0, 0), Check.BEYOND);
        Check.due("sound(-1, 0, 0)", x.sound(-1, 0, 0), Check.BEYOND);
        Check.due("sound(0, 16, 0)", x.sound(0, 16, 0), Check.BEYOND);
        Check.due("sound(0, -1, 0)", x.sound(0, -1, 0), Check.BEYOND);
        Check.due("sound(0, 0, 12)", x.sound(0, 0, 12), Check.BEYOND);
        Check.due("sound(0, 0, -1)", x.sound(0, 0, -1), Check.BEYOND);
    }

    private static void heard() {
        OneShort x = Check.orchestra("player on 5 loud 3;player on 8 part 1 loud 9;bar 1 1;bar 2 0");
        Check.due("heard(5, 0)", x.heard(5, 0), 6);
        Check.due("heard(5, 1)", x.heard(5, 1), 3);
        Check.due("heard(8, 0)", x.heard(8, 0), 9);
        Check.due("heard(8, 1)", x.heard(8, 1), 0);
        Check.due("heard(8, 2)", x.heard(8, 2), 0);
        Check.due("heard(0, 0)", x.heard(0, 0), 1);
        Check.due("heard of none", new OneShort().heard(15, 11), 0);
        Check.due("heard(16, 0)", x.heard(16, 0), Check.BEYOND);
        Check.due("heard(-1, 0)", x.heard(-1, 0), Check.BEYOND);
        Check.due("heard(0, 12)", x.heard(0, 12), Check.BEYOND);
        Check.due("heard(0, -1)", x.heard(0, -1), Check.BEYOND);
    }

    private static void hears() {
        OneShort x = Check.orchestra("deaf on 5 loud 9;player on 3 part 1 loud 3;player on 7 part 2 loud 2;bar 1 1;bar 2 4");
        Check.due("a DEAF one hears nobody on a lesser seat", x.hears(0, 1), 0);
        Check.due("not at the edge of sound", x.hears(0, 2), 0);
        Check.due("it is heard itself", x.hears(1, 0), 0xFFB);
        x.change(2, 3, 3);
        Check.due("within sound", x.hears(0, 2), 0xFFD);
        x.swap(1, 2);
        Check.due("on a greater seat", x.hears(0, 1), 0xFF9);
        x.change(1, 1, 5);
        Check.due("on the same seat", x.hears(0, 1), 0xFF9);
        x.change(1, 1, 3);
        x.change(0, 0, 0);
        Check.due("no DEAF one", x.hears(0, 1), 0xFF9);
        x.change(1, 3, 0);
        Check.due("without loud", x.hears(0, 1), 0);
        Check.due("hears(0, 0)", x.hears(0, 0), Check.BEYOND);
        Check.due("hears(0, 3)", x.hears(0, 3), Check.BEYOND);
        Check.due("hears(3, 0)", x.hears(3, 0), Check.BEYOND);
        Check.due("hears(-1, 0)", x.hears(-1, 0), Check.BEYOND);
        Check.due("hears(0, -1)", x.hears(0, -1), Check.BEYOND);
    }

    private static void hearing() {
        OneShort x = Check.orchestra("deaf on 5;player on 4 part 1;player on 6;late on 9;player on 10;bar 3 2");
        Check.due("hearing(0, 0)", x.hearing(0, 0), 4);
        Check.due("hearing(0, 4)", x.hearing(0, 4), 12);
        Check.due("hearing(0, 3)", x.hearing(0, 3), 0);
        Check.due("one that doesn't play hears, too", x.hearing(2, 3), 2);
        Check.due("hearing(1, 4)", x.hearing(1, 4), 5);
        Check.due("hearing(5, 0)", x.hearing(5, 0), Check.BEYOND);
        Check.due("hearing(-1, 0)", x.hearing(-1, 0), Check.BEYOND);
        Check.due("hearing(0, 12)", x.hearing(0, 12), Check.BEYOND);
        Check.due("hearing(0, -1)", x.hearing(0, -1), Check.BEYOND);
    }
}

import java.lang.reflect.InvocationTargetException;
import java.lang.reflect.Method;
import java.util.Arrays;

/** BEYOND, of all calls: the first and the last value of each number is taken, the next on either side is not. */
public final class BoundsTest {
    /** Each number of a call: one that is taken, and perhaps from which one to which one all are. */
    private static final String[] CALLS = {
        "bar 5:0..11 9:0..63",
        "barOf 5:0..11 0:0..2",
        "barOf 5:0..11 1",
        "barOf 5:0..11 2",
        "player 3:0..6 8:0..15",
        "of 1:0..2 4:0..6",
        "of 1:0..2 5",
        "of 1:0..2 6",
        "change 1:0..2 0:0..4 3:0..6",
        "change 1:0..2 1 3:0..15",
        "change 1:0..2 2 3:0..5",
        "change 1:0..2 3 3:0..9",
        "change 1:0..2 4 3:0..99",
        "swap 1:0..2 1:0..2",
        "sound 1:0..2 8:0..15 5:0..11",
        "heard 8:0..15 5:0..11",
        "hears 1:0..2 1:0..2",
        "hearing 1:0..2 5:0..11",
        "go 3:1..20",
        "now 1:0..4",
        "ahead 1:0..2 7:0..40",
        "broken 1:0..2",
        "kindFor 1:0..2 3:0..20",
        "seatFor 1:0..2 3:0..20",
        "lost 3:0..7",
        "parts 1:0..2 1:0..2",
        "who 7:0..4095",
        "nearest 1:0..2 1:0..2",
        "loudFor 1:0..2 8:0..15 5:0..11",
        "fits 1:0..3 1",
        "fits 1 1:0..2",
        "kinds 1:0..3 1",
        "kinds 1 1:0..2",
        "strings 2:1..12",
        "odds 3:0..14 0:0..1",
        "odds 3:0..14 1",
        "feed 65 2:1..4",
        "hold 4:0..9 1:-1..2",
        "hold 4:0..9 -1",
        "as 0:0..9 0:0..6",
        "sheet 1:0..3 8 3",
        "sheet 1:0..3 0 0",
        "write 1:0..3 0 5",
        "write 1 5:0..11 5",
        "copy 1:0..3 0 1:0..3 0 0",
        "copy 1 3:0..8 1 0 4",
        "copy 1 0 1 3:0..8 4",
        "copy 1 0 1 0 3:0..12",
        "copy 1 5 1 0 3:0..7",
        "copy 1 0 1 5 3:0..7",
        "load 1:0..3",
        "judge 1:0..3",
        "count 1:0..7",
        "status 0:-1..6"};

    public static void main(String[] args) {
        for (String call : CALLS) {
            String[] words = call.split(" ");
            for (int i = 1; i < words.length; i++) {
                if (words[i].contains("..")) {
                    String[] ends = words[i].split(":")[1].split("\\.\\.");
                    bounds(words, i, Integer.parseInt(ends[0]), Integer.parseInt(ends[1]));
                }
            }
        }
        twoAtOnce();
        Check.end();
    }

    private static void bounds(String[] words, int place, int first, int last) {
        for (int v : new int[] {first, last}) {
            OneShort x = Twins.rich();
            int before = x.status(0);
            String call = words[0] + Arrays.toString(numbers(words, place, v));
            Check.due(call + " is BEYOND", ask(x, words, place, v) == Check.BEYOND ? 1 : 0, 0);
            Check.due("status(0) behind " + call, x.status(0), before);
        }
        for (int v : new int[] {first - 1, last + 1, Integer.MIN_VALUE, Integer.MAX_VALUE}) {
            String call = words[0] + Arrays.toString(numbers(words, place, v));
            Twins.refused(call, Twins::rich, x -> ask(x, words, place, v), Check.BEYOND);
        }
    }

    private static int[] numbers(String[] words, int place, int v) {
        int[] numbers = new int[words.length - 1];
        for (int i = 1; i < words.length; i++) {
            numbers[i - 1] = i == place ? v : Integer.parseInt(words[i].split(":")[0]);
        }
        return numbers;
    }

    private static long ask(OneShort x, String[] words, int place, int v) {
        int[] numbers = numbers(words, place, v);
        Class<?>[] types = new Class<?>[numbers.length];
        Arrays.fill(types, int.class);
        try {
            Method method = OneShort.class.getMethod(words[0], types);
            return ((Number) method.invoke(x, Arrays.stream(numbers).boxed().toArray())).longValue();
        } catch (NoSuchMethodException | IllegalAccessException | InvocationTargetException e) {
            throw new IllegalStateException(words[0], e);
        }
    }

    /** An act answers one finding, however much of it is wrong. */
    private static void twoAtOnce() {
        Twins.refused("bar(12, 64)", Twins::rich, x -> x.bar(12, 64), Check.BEYOND);
        Twins.refused("player(7, 16)", Twins::rich, x -> x.player(7, 16), Check.BEYOND);
        Twins.refused("change(3, 5, 100)", Twins::rich, x -> x.change(3, 5, 100), Check.BEYOND);
        Twins.refused("swap(3, 3)", Twins::rich, x -> x.swap(3, 3), Check.BEYOND);
        Twins.refused("sound(3, 16, 12)", Twins::rich, x -> x.sound(3, 16, 12), Check.BEYOND);
        Twins.refused("ahead(3, 41)", Twins::rich, x -> x.ahead(3, 41), Check.BEYOND);
        Twins.refused("odds(15, 2)", Twins::rich, x -> x.odds(15, 2), Check.BEYOND);
        Twins.refused("hold(10, 3)", Twins::rich, x -> x.hold(10, 3), Check.BEYOND);
        Twins.refused("sheet(4, 9, 41)", Twins::rich, x -> x.sheet(4, 9, 41), Check.BEYOND);
        Twins.refused("copy(1, 9, 1, 9, -1)", Twins::rich, x -> x.copy(1, 9, 1, 9, -1), Check.BEYOND);
    }
}

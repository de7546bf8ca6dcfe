import java.lang.reflect.Method;
import java.util.Arrays;

/** Long runs of calls, the same each time, of OneShort and of Model. */
public final class ModelTest {
    /** Each call with the ends of its numbers; some come from a little outside. */
    private static final String[] CALLS = {
        "bar 12 64", "barOf 12 3", "player 7 16", "of 8 7", "change 8 5 16", "change 8 5 7", "change 8 5 100", "swap 8 8",
        "sound 8 16 12", "heard 16 12", "hears 8 8", "hearing 8 12", "go 6", "now 5", "ahead 8 41", "broken 8", "settles",
        "kindFor 8 21", "seatFor 8 21", "spare", "fewest", "lost 256", "dearest", "parts 8 8", "tells", "halves", "who 4096",
        "nearest 8 8", "links", "bestSwap", "loudFor 8 16 12", "fits 4 8", "kinds 4 8", "strings 4", "odds 15 2", "seed 9999",
        "hold 10 8", "as 10 7", "sheet 4 33 41", "write 4 40 64", "copy 4 9 4 9 9", "load 4", "judge 4", "image", "undo", "tear",
        "count 8", "status 7", "wipe", "text", "feed 999 5"};
    private static final String[] WORDS = {"player", "late", "doubling", "married", "extra", "deaf", "sleeper"};

    private static int state = 1;

    public static void main(String[] args) throws Exception {
        for (int run = 0; run < 400; run++) {
            run(run);
        }
        Check.end();
    }

    private static int below(int end) {
        state = state * 1664525 + 1013904223;
        return (state >>> 9) % end;
    }

    private static void run(int run) throws Exception {
        OneShort x = new OneShort();
        Model model = new Model();
        boolean wild = run % 4 == 3;
        for (int i = 0; i < 500; i++) {
            int sort = below(24);
            if (sort == 0) {
                i += tellBoth(x, model, text(wild || below(4) == 0));
            } else if (sort == 1) {
                i += tellNerve(x, model, below(4), below(8));
            } else {
                callBoth(x, model, CALLS[below(CALLS.length)].split(" "), wild);
            }
        }
    }

    private static void callBoth(OneShort x, Model model, String[] call, boolean wild) throws Exception {
        int[] numbers = new int[call.length - 1];
        for (int i = 0; i < numbers.length; i++) {
            int end = Integer.parseInt(call[i + 1]);
            boolean outside = below(wild ? 6 : 40) == 0;
            numbers[i] = outside ? new int[] {-1, -2, end, end + 1, Integer.MAX_VALUE, Integer.MIN_VALUE}[below(6)] : below(end);
        }
        if (call[0].equals("sheet") && below(10) > 0) {
            numbers[1] = new int[] {0, 8, 8, 16, 16, 32, 32}[below(7)];
        }
        ask(x, model, call[0], numbers);
    }

    private static long ask(OneShort x, Model model, String name, int... numbers) throws Exception {
        Class<?>[] types = new Class<?>[numbers.length];
        Arrays.fill(types, int.class);
        Object[] values = Arrays.stream(numbers).boxed().toArray();
        Method due = Model.class.getDeclaredMethod(name, types);
        long want = ((Number) due.invoke(model, values)).longValue();
        long got = ((Number) OneShort.class.getMethod(name, types).invoke(x, values)).longValue();
        Check.due(name + Arrays.toString(numbers), got, want);
        return want;
    }

    private static int tellBoth(OneShort x, Model model, String text) throws Exception {
        int calls = 0;
        for (int i = 0; i < text.length(); i += 4) {
            int n = Math.min(4, text.length() - i);
            int bytes = 0;
            for (int j = 0; j < n; j++) {
                bytes = bytes << 8 | text.charAt(i + j);
            }
            ask(x, model, "feed", bytes, n);
            calls++;
        }
        ask(x, model, "text");
        return calls + 1;
    }

    /** A sheet that tells how nerve will go, here and there. */
    private static int tellNerve(OneShort x, Model model, int s, int player) throws Exception {
        int n = 1 + below(5);
        ask(x, model, "sheet", s, 16, n);
        for (int i = 0; i < n; i++) {
            long nerve = ask(x, model, "ahead", player, i);
            ask(x, model, "write", s, i, below(3) == 0 || nerve < 0 ? -1 : (int) nerve);
        }
        ask(x, model, "fits", s, player);
        ask(x, model, "kinds", s, player);
        return 2 * n + 3;
    }

    private static String text(boolean faulty) {
        StringBuilder text = new StringBuilder();
        int items = 1 + below(4);
        for (int i = 0; i < items; i++) {
            text.append(i > 0 ? "; ".substring(0, 1 + below(2)) : "");
            if (below(3) == 0) {
                text.append("bar ").append(below(12)).append(' ').append(below(64));
                continue;
            }
            text.append(WORDS[below(7)]);
            perhaps(text, "on", 16);
            perhaps(text, "part", 6);
            perhaps(text, "loud", 10);
            perhaps(text, "nerve", 100);
        }
        if (faulty && text.length() > 0) {
            String signs = "; 019azAZ\n~\u00e4";
            int at = below(text.length());
            text.replace(at, at + below(2), "" + signs.charAt(below(signs.length())));
        }
        return text.toString();
    }

    private static void perhaps(StringBuilder text, String word, int end) {
        if (below(3) > 0) {
            text.append(below(5) == 0 ? "  " : " ").append(word).append(below(5) == 0 ? "" : " ").append(below(end));
        }
    }
}

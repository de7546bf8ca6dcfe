/** Counts the answers that are not as due, and tells them. */
final class Check {
    static final int BEYOND = -1000001;
    static final int FULL = -1000002;
    static final int KIND = -1000003;
    static final int NONE = -1000004;
    static final int STATE = -1000005;
    static final int MISSING = -1000006;
    static final int SIZE = -1000007;

    private static int wrong = 0;
    private static int asked = 0;

    private Check() {
    }

    static void due(String call, long got, long want) {
        asked++;
        if (got != want) {
            wrong++;
            System.out.println(call + " answered " + got + ", due is " + want);
        }
    }

    /** What text() answers to a TEXT on a TAPE that was empty. */
    static int tell(OneShort x, String text) {
        feed(x, text);
        return x.text();
    }

    static void feed(OneShort x, String text) {
        int had = x.count(5);
        for (int i = 0; i < text.length(); i += 4) {
            int end = Math.min(text.length(), i + 4);
            int bytes = 0;
            for (int j = i; j < end; j++) {
                bytes = bytes << 8 | text.charAt(j);
            }
            due("feed '" + text.substring(i, end) + "'", x.feed(bytes, end - i), had + end);
        }
    }

    /** An orchestra as a TEXT tells it. */
    static OneShort orchestra(String text) {
        OneShort x = new OneShort();
        int items = tell(x, text);
        due("text() of " + text, items, text.split(";").length);
        return x;
    }

    static void fill(OneShort x, int s, int bits, int... numbers) {
        due("sheet", x.sheet(s, bits, numbers.length), numbers.length);
        for (int i = 0; i < numbers.length; i++) {
            due("write", x.write(s, i, numbers[i]), 1);
        }
    }

    static void end() {
        System.out.println(wrong + " of " + asked + " answers are not as due");
        if (wrong > 0) {
            System.exit(1);
        }
    }
}

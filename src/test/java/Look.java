import java.util.function.ToLongFunction;

/** Texts of what a library is, by which two of them are compared. */
final class Look {
    private Look() {
    }

    /** All that can be seen without a change. */
    static String seen(Calls x) {
        StringBuilder text = new StringBuilder();
        for (int what = -1; what < 8; what++) {
            text.append(x.told(what)).append(' ');
        }
        text.append(x.badAt()).append(' ').append(hex(bytes(x))).append(' ');
        for (int number = 0; number < 16; number++) {
            text.append(content(x, number));
        }
        for (int k = 0; k <= x.told(4); k++) {
            int place = k;
            text.append(tried(x, c -> c.found(place, 0))).append('/');
            text.append(tried(x, c -> c.found(place, 1))).append(' ');
        }
        return text.toString();
    }

    /** All that is there, the pictures being made too, which looking uses up. */
    static String all(Calls x) {
        StringBuilder text = new StringBuilder(seen(x));
        if (x.told(5) == 1) {
            text.append(x.reopen());
        }
        x.fuse(ContentLibrary.NONE);
        for (int picture = 0; picture < 8; picture++) {
            int p = picture;
            text.append(Check.answer(x, c -> c.samples(p, 1, 77, 0))).append(' ');
            text.append(Check.answer(x, c -> c.samples(p, 64, 5, 3))).append(' ');
        }
        for (int number = 0; number < 16; number++) {
            text.append(dropped(x, number));
        }
        for (int picture = 0; picture < 8; picture++) {
            int p = picture;
            text.append(Check.answer(x, c -> c.keep(p)));
            text.append(content(x, 0)).append(dropped(x, 0));
        }
        return text.append(seen(x)).toString();
    }

    /** An answer, or what is thrown, of a call that is only to look. */
    private static String tried(Calls x, ToLongFunction<Calls> body) {
        x.looking(true);
        String answer = Check.answer(x, body);
        x.looking(false);
        return answer;
    }

    /** Which blocks a number has is seen by the kinds of all blocks when they are wiped. */
    private static String dropped(Calls x, int number) {
        String answer = Check.answer(x, c -> c.drop(number));
        if (answer.startsWith("throws")) {
            return "- ";
        }
        StringBuilder text = new StringBuilder(answer).append(':');
        for (int block = 0; block < x.told(0); block++) {
            text.append(x.byteAt(block, 4)).append(',');
        }
        return text.append(' ').toString();
    }

    private static String content(Calls x, int number) {
        String print = tried(x, c -> c.print(number));
        if (print.startsWith("throws")) {
            return print + " ";
        }
        StringBuilder text = new StringBuilder(print);
        for (int i = 0; i < 8; i++) {
            text.append(',').append(x.digest(number, i));
        }
        for (int row = 0; row < 9; row++) {
            text.append(row(x, number, row));
        }
        return text.append(' ').toString();
    }

    private static String row(Calls x, int number, int row) {
        StringBuilder text = new StringBuilder("/");
        for (int column = 0; column < 9; column++) {
            int at = column;
            String sample = tried(x, c -> c.sample(number, at, row));
            if (sample.startsWith("throws")) {
                return text.toString();
            }
            text.append(sample).append(',');
        }
        return text.toString();
    }

    private static char[] hex(int[] bytes) {
        char[] text = new char[2 * bytes.length];
        for (int i = 0; i < bytes.length; i++) {
            text[2 * i] = Character.forDigit(bytes[i] >> 4, 16);
            text[2 * i + 1] = Character.forDigit(bytes[i] & 15, 16);
        }
        return text;
    }

    static int[] bytes(Calls x) {
        int[] bytes = new int[x.told(0) * 64];
        for (int i = 0; i < bytes.length; i++) {
            bytes[i] = x.byteAt(i / 64, i % 64);
        }
        return bytes;
    }

    static int[] block(Calls x, int block) {
        int[] bytes = new int[64];
        for (int i = 0; i < 64; i++) {
            bytes[i] = x.byteAt(block, i);
        }
        return bytes;
    }
}

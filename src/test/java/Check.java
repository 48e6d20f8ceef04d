import java.nio.ByteBuffer;
import java.security.MessageDigest;
import java.security.NoSuchAlgorithmException;
import java.util.Arrays;
import java.util.function.IntSupplier;
import java.util.function.ToLongFunction;

/** What the tests share: due answers, due exceptions, and the blocks as the document tells them. */
final class Check {
    static final Class<? extends RuntimeException> STATE = IllegalStateException.class;
    static final Class<? extends RuntimeException> INDEX = IndexOutOfBoundsException.class;
    static final Class<? extends RuntimeException> ARGUMENT = IllegalArgumentException.class;
    static final Class<? extends RuntimeException> UNSUPPORTED = UnsupportedOperationException.class;

    private static int wrong = 0;

    private Check() {
    }

    static void due(String call, long got, long want) {
        if (got != want) {
            wrong++;
            System.out.println(call + " answered " + got + ", due is " + want);
        }
    }

    static void dueThrow(String call, Class<? extends RuntimeException> want, IntSupplier body) {
        try {
            int got = body.getAsInt();
            wrong++;
            System.out.println(call + " answered " + got + ", due is " + want.getSimpleName());
        } catch (RuntimeException e) {
            if (e.getClass() != want) {
                wrong++;
                System.out.println(call + " threw " + e + ", due is " + want.getSimpleName());
            }
        }
    }

    /** Like dueThrow, and the call changes nothing that can be seen. */
    static void dueRefusal(Calls x, String call, Class<? extends RuntimeException> want, IntSupplier body) {
        String before = Look.seen(x);
        dueThrow(call, want, body);
        dueSame(call + " leaves all as it was", before, Look.seen(x));
    }

    static void dueSame(String what, Object want, Object got) {
        if (!want.equals(got)) {
            wrong++;
            System.out.println(what + ": is " + part(got, want) + ", due is " + part(want, got));
        }
    }

    /** Of a long text, the part where it begins to differ from another. */
    private static String part(Object one, Object other) {
        String text = one.toString();
        String against = other.toString();
        int at = 0;
        while (at < text.length() && at < against.length() && text.charAt(at) == against.charAt(at)) {
            at++;
        }
        int from = Math.max(0, at - 40);
        int to = Math.min(text.length(), at + 80);
        return text.length() <= 120 ? text : "[from " + from + "] .." + text.substring(from, to) + "..";
    }

    static void dueTold(Calls x, String when, int... wanted) {
        for (int what = 0; what < wanted.length; what++) {
            due(when + ": told(" + what + ")", x.told(what), wanted[what]);
        }
    }

    static void finish() {
        System.out.println(wrong == 0 ? "all answers are as due" : wrong + " answers are not as due");
        if (wrong != 0) {
            System.exit(1);
        }
    }

    /** What a call answers, or what it throws. */
    static String answer(Calls x, ToLongFunction<Calls> body) {
        try {
            return Long.toString(body.applyAsLong(x));
        } catch (RuntimeException e) {
            return "throws." + e.getClass().getSimpleName();
        }
    }

    /** A whole picture being made. */
    static int make(Calls x, int width, int height, int v, int step) {
        int picture = x.picture(width, height);
        x.samples(picture, width * height, v, step);
        return picture;
    }

    static int keep(Calls x, int width, int height, int v, int step) {
        return x.keep(make(x, width, height, v, step));
    }

    static int[] message(int width, int height, int v, int step) {
        int[] message = new int[2 + width * height];
        message[0] = width;
        message[1] = height;
        for (int i = 0; i < width * height; i++) {
            message[2 + i] = Math.floorMod(v + i * step, 256);
        }
        return message;
    }

    static int[] digest(int[] message) {
        byte[] bytes = new byte[message.length];
        for (int i = 0; i < bytes.length; i++) {
            bytes[i] = (byte) message[i];
        }
        try {
            byte[] hash = MessageDigest.getInstance("SHA-256").digest(bytes);
            ByteBuffer words = ByteBuffer.wrap(hash);
            int[] digest = new int[8];
            for (int i = 0; i < 8; i++) {
                digest[i] = words.getInt();
            }
            return digest;
        } catch (NoSuchAlgorithmException e) {
            throw new IllegalStateException("this Java has no SHA-256", e);
        }
    }

    /** A block with its sum right for a place. */
    static int[] block(int place, int kind, int number, int which, int count, int... data) {
        int[] block = new int[64];
        block[4] = kind;
        block[5] = number;
        block[6] = which;
        block[7] = count;
        System.arraycopy(data, 0, block, 8, data.length);
        return seal(place, block);
    }

    static int[] seal(int place, int[] block) {
        long sum = place + 256;
        for (int i = 4; i < 64; i++) {
            long mixed = (sum ^ block[i]) & 0xFFFFFFFFL;
            long turned = (mixed << 7 | mixed >>> 25) & 0xFFFFFFFFL;
            sum = turned * 0x165667B1L & 0xFFFFFFFFL;
        }
        for (int i = 0; i < 4; i++) {
            block[i] = (int) (sum >> 8 * i) & 255;
        }
        return block;
    }

    /** Makes a block's bytes those given, by pokes. */
    static void forge(Calls x, int place, int[] block) {
        for (int i = 0; i < 64; i++) {
            int mask = x.byteAt(place, i) ^ block[i];
            if (mask != 0) {
                x.poke(place, i, mask);
            }
        }
    }

    static void dueBlock(Calls x, String when, int place, int[] wanted) {
        dueSame(when + ": block " + place, Arrays.toString(wanted), Arrays.toString(Look.block(x, place)));
    }
}

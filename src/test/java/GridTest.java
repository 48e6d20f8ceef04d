import java.util.ArrayList;
import java.util.List;
import java.util.function.ToLongFunction;

/**
 * Every call with every number at an edge, in every scene, beside the plain model: the answer or the exception is
 * the same, and so is all that is there behind it; behind an exception, that is what was there before.
 */
public final class GridTest {
    private static final int LEAST = Integer.MIN_VALUE;
    private static final int MOST = Integer.MAX_VALUE;
    private static final int[] SIDES = {LEAST, -1, 0, 1, 7, 8, 9, MOST};
    private static final int[] PICTURES = {LEAST, -1, 0, 1, 2, 3, 7, 8, MOST};
    private static final int[] COUNTS = {LEAST, -1, 0, 1, 2, 3, 63, 64, 65, MOST};
    private static final int[][] SAMPLES = {{0, 0}, {255, 1}, {-1, -1}, {MOST, LEAST}};
    private static final int[] NUMBERS = {LEAST, -1, 0, 1, 2, 3, 14, 15, 16, MOST};
    private static final int[] WORDS = {LEAST, -1, 0, 7, 8, MOST};
    private static final int[] PLACES = {LEAST, -1, 0, 1, 2, 3, 7, 8, MOST};
    private static final int[] BOUNDS = {LEAST, -1, 0, 1, 31, 32, 63, 64, 65, MOST};
    private static final int[] FOUND = {LEAST, -1, 0, 1, 2, 3, 15, 16, MOST};
    private static final int[] WHATS = {LEAST, -2, -1, 0, 1, 2, 3, 4, 5, 6, 7, 8, MOST};
    private static final int[] FUSES = {LEAST, -3, -2, -1, 0, 1, MOST};
    private static final int[] BLOCKS = {LEAST, -1, 0, 3, 4, 5, 11, 12, 31, 32, 39, 40, MOST};
    private static final int[] BYTES = {LEAST, -1, 0, 4, 5, 63, 64, MOST};
    private static final int[] MASKS = {LEAST, -1, 0, 1, 255, 256, MOST};

    private record Call(String name, ToLongFunction<Calls> body) {
    }

    private final List<Call> calls = new ArrayList<>();

    public static void main(String[] args) {
        GridTest grid = new GridTest();
        grid.addMaking();
        grid.addLooking();
        grid.addWriting();
        grid.addBlocks();
        for (Scene scene : Scene.ALL) {
            String before = Look.all(scene.model());
            for (Call call : grid.calls) {
                check(scene, call, before);
            }
        }
        Check.finish();
    }

    private static void check(Scene scene, Call call, String before) {
        Calls model = scene.model();
        Calls real = scene.real();
        String where = scene.name() + ": " + call.name();
        String due = Check.answer(model, call.body());
        Check.dueSame(where, due, Check.answer(real, call.body()));
        String left = due.startsWith("throws") ? before : Look.all(model);
        Check.dueSame(where + ", what is there then", left, Look.all(real));
    }

    private void add(String name, ToLongFunction<Calls> body) {
        calls.add(new Call(name, body));
    }

    private void addMaking() {
        for (int width : SIDES) {
            for (int height : SIDES) {
                add("picture(" + width + ", " + height + ")", c -> c.picture(width, height));
            }
        }
        for (int picture : PICTURES) {
            for (int n : COUNTS) {
                for (int[] s : SAMPLES) {
                    add("samples(" + picture + ", " + n + ", " + s[0] + ", " + s[1] + ")",
                            c -> c.samples(picture, n, s[0], s[1]));
                }
            }
        }
    }

    private void addLooking() {
        for (int number : NUMBERS) {
            add("print(" + number + ")", c -> c.print(number));
            for (int i : WORDS) {
                add("digest(" + number + ", " + i + ")", c -> c.digest(number, i));
            }
            for (int x : PLACES) {
                for (int y : PLACES) {
                    add("sample(" + number + ", " + x + ", " + y + ")", c -> c.sample(number, x, y));
                }
            }
        }
        for (int picture : PICTURES) {
            for (int bound : BOUNDS) {
                add("near(" + picture + ", " + bound + ")", c -> c.near(picture, bound));
            }
        }
        for (int k : FOUND) {
            for (int what : WHATS) {
                add("found(" + k + ", " + what + ")", c -> c.found(k, what));
            }
        }
        for (int what : WHATS) {
            add("told(" + what + ")", c -> c.told(what));
        }
    }

    private void addWriting() {
        for (int picture : PICTURES) {
            add("keep(" + picture + ")", c -> c.keep(picture));
        }
        for (int number : NUMBERS) {
            add("drop(" + number + ")", c -> c.drop(number));
        }
        for (int bytes : FUSES) {
            add("fuse(" + bytes + ")", c -> c.fuse(bytes));
        }
        add("sweep()", c -> c.sweep());
        add("reopen()", c -> c.reopen());
    }

    private void addBlocks() {
        add("badAt()", c -> c.badAt());
        for (int block : BLOCKS) {
            for (int i : BYTES) {
                add("byteAt(" + block + ", " + i + ")", c -> c.byteAt(block, i));
                for (int mask : MASKS) {
                    add("poke(" + block + ", " + i + ", " + mask + ")", c -> c.poke(block, i, mask));
                }
            }
        }
    }
}

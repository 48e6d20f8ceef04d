import java.util.ArrayList;
import java.util.List;
import java.util.function.ToLongFunction;

/**
 * The class as the tests use it: "An object is used for at most 512 calls after it has been made; what later calls
 * answer is free." So when an object has had them, a new one is made, and gets again all calls that may have
 * changed something, those that were refused among them; they must answer as they did.
 */
final class Library implements Calls {
    private static final int MOST_CALLS = 512;

    private record Done(ToLongFunction<ContentLibrary> call, String answer) {
    }

    private final int blocks;
    private final List<Done> run = new ArrayList<>();
    private ContentLibrary object;
    private int calls;
    private boolean looking;

    Library(int blocks) {
        this.blocks = blocks;
        begin();
    }

    private void begin() {
        object = new ContentLibrary(blocks);
        calls = 0;
    }

    public void looking(boolean on) {
        looking = on;
    }

    /** How many calls a new object would get again. */
    int runLength() {
        return run.size();
    }

    private long changing(ToLongFunction<ContentLibrary> call) {
        return answer(call, true);
    }

    private long telling(ToLongFunction<ContentLibrary> call) {
        return answer(call, false);
    }

    private long answer(ToLongFunction<ContentLibrary> call, boolean changes) {
        if (calls == MOST_CALLS) {
            doAgain();
        }
        calls++;
        try {
            long answer = call.applyAsLong(object);
            if (changes) {
                run.add(new Done(call, Long.toString(answer)));
            }
            return answer;
        } catch (RuntimeException e) {
            if (changes || !looking) {
                run.add(new Done(call, e.getClass().getSimpleName()));
            }
            throw e;
        }
    }

    private void doAgain() {
        if (run.size() >= MOST_CALLS) {
            throw new AssertionError("this test asks for more calls than an object is used for");
        }
        begin();
        for (Done done : run) {
            calls++;
            Check.dueSame("the same call again", done.answer(), again(done.call()));
        }
    }

    private String again(ToLongFunction<ContentLibrary> call) {
        try {
            return Long.toString(call.applyAsLong(object));
        } catch (RuntimeException e) {
            return e.getClass().getSimpleName();
        }
    }

    public int picture(int width, int height) {
        return (int) changing(x -> x.picture(width, height));
    }

    public int samples(int picture, int n, int v, int step) {
        return (int) changing(x -> x.samples(picture, n, v, step));
    }

    public int keep(int picture) {
        return (int) changing(x -> x.keep(picture));
    }

    public int digest(int number, int i) {
        return (int) telling(x -> x.digest(number, i));
    }

    public long print(int number) {
        return telling(x -> x.print(number));
    }

    public int sample(int number, int x, int y) {
        return (int) telling(o -> o.sample(number, x, y));
    }

    public int near(int picture, int bound) {
        return (int) changing(x -> x.near(picture, bound));
    }

    public int found(int k, int what) {
        return (int) telling(x -> x.found(k, what));
    }

    public int drop(int number) {
        return (int) changing(x -> x.drop(number));
    }

    public int sweep() {
        return (int) changing(x -> x.sweep());
    }

    public int fuse(int bytes) {
        return (int) changing(x -> x.fuse(bytes));
    }

    public int reopen() {
        return (int) changing(x -> x.reopen());
    }

    public int poke(int block, int i, int mask) {
        return (int) changing(x -> x.poke(block, i, mask));
    }

    public int badAt() {
        return (int) telling(x -> x.badAt());
    }

    public int byteAt(int block, int i) {
        return (int) telling(x -> x.byteAt(block, i));
    }

    public int told(int what) {
        return (int) telling(x -> x.told(what));
    }
}

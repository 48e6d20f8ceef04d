/** The calls of the document's face, so that the same run goes to the class and to the plain model. */
interface Calls {
    int picture(int width, int height);

    int samples(int picture, int n, int v, int step);

    int keep(int picture);

    int digest(int number, int i);

    long print(int number);

    int sample(int number, int x, int y);

    int near(int picture, int bound);

    int found(int k, int what);

    int drop(int number);

    int sweep();

    int fuse(int bytes);

    int reopen();

    int poke(int block, int i, int mask);

    int badAt();

    int byteAt(int block, int i);

    int told(int what);

    /** Whether the calls from here on are only to look: none of them, refused or not, is part of the run then. */
    default void looking(boolean on) {
    }
}

/** Numbers at and beyond the edges that the document draws. */
final class Edges {
    static final int LEAST = Integer.MIN_VALUE;
    static final int MOST = Integer.MAX_VALUE;

    /** The first and the last of every run of subjects among the ints. */
    static final int[] SUBJECTS = {0, 7, 8, 39, 48, 79, 88, 119, 128, 159, 168, 199};

    /** Those next to them on either side, and some that would be subjects if they went round. */
    static final int[] NO_SUBJECTS = {
        -1, 40, 47, 80, 87, 120, 127, 160, 167, 200,
        -7, -8, -40, -192, -200, 207, 208, 240, 256, 264, 65536, 65544,
        LEAST, LEAST + 8, LEAST + 7, MOST - 7, MOST};

    private Edges() {
    }

    /** The last int below first, the first above last, and ints that shifts or casts turn into 0. */
    static int[] outside(int first, int last) {
        return new int[] {first - 1, last + 1, -256, -32, 256, 65536, LEAST, MOST - 255, MOST};
    }

    /** What is no number of a certificate when so many were made. */
    static int[] noCertificates(int made) {
        return new int[] {-1, made, 24, 25, -24, 256, 65536, LEAST, MOST};
    }
}

import java.util.Arrays;

/** Every JOB of up to six STEPS out of eight, each compared with the Oracle: all ways to lie in one another, to fail and to catch. */
final class JobShapes {
    private static final int[][] STEPS = {{0, 1, 0, 0}, {0, 2, 0, 0}, {1, 0, 0, 0}, {2, 0, 0, 0}, {3, 0, 0, 0}, {7, 0, 0, 0}, {5, 0, 3, 0}, {5, 12, 3, 0}};
    private static final int LONGEST = 6;
    private static final int DONE = 31;
    private static final int BAND = 2;
    private static final int STEP = 29;
    private static final int JOB = 30;

    static void compareAll() {
        int[] shape = new int[LONGEST];
        for (int length = 0; length <= LONGEST; length++) {
            int shapes = 1;
            for (int k = 0; k < length; k++) {
                shapes *= STEPS.length;
            }
            for (int number = 0; number < shapes; number++) {
                int rest = number;
                for (int k = 0; k < length; k++) {
                    shape[k] = rest % STEPS.length;
                    rest /= STEPS.length;
                }
                compare(shape, length);
            }
        }
    }

    private static void compare(int[] shape, int length) {
        LayerHouse house = new LayerHouse();
        Oracle oracle = new Oracle();
        house.band(0, Due.INT, 1);
        house.set(0, Due.INT, 0, 5);
        oracle.call(BAND, new long[] {0, Due.INT, 1});
        oracle.call(10, new long[] {0, Due.INT, 0, 5});
        for (int k = 0; k < length; k++) {
            int[] s = STEPS[shape[k]];
            house.step(s[0], s[1], s[2], s[3]);
            oracle.call(STEP, new long[] {s[0], s[1], s[2], s[3]});
        }
        String what = "32 shape " + Arrays.toString(Arrays.copyOf(shape, length));
        Due.is(what, house.job() ? 1 : 0, oracle.call(JOB, new long[0]));
        Due.is(what + " told", house.told(), oracle.told);
        Due.is(what + " total", house.total(), oracle.total);
        for (int k = 0; k < 7; k++) {
            Due.is(what + " done " + k, house.done(k), oracle.call(DONE, new long[] {k}));
        }
    }
}

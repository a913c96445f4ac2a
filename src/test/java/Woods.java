/** Woods to begin a test with. */
final class Woods {
    private Woods() {
    }

    /** At height 0, each step of 1 minute. */
    static SmokeWatch flat(int rows, int columns) {
        SmokeWatch x = new SmokeWatch();
        for (int r = 0; r < rows; r++) {
            x.row(r, columns, 0, 1);
        }
        return x;
    }

    /** One row with these heights, each step of 1 minute. */
    static SmokeWatch ridge(int... heights) {
        SmokeWatch x = flat(1, heights.length);
        for (int c = 0; c < heights.length; c++) {
            x.square(0, c, heights[c], 1);
        }
        return x;
    }

    /** A GLOW with SIDE 0: what lies straight ahead, hidden or not. */
    static int glow(SmokeWatch x, int t, int minute, int down, int right) {
        return x.sight(3, t, minute, down, right, 0, 0, 0);
    }

    /** Two towers and glows whose squares are a row or a column each. */
    static SmokeWatch crossing() {
        SmokeWatch x = flat(5, 5);
        x.tower(2, 0, 10);
        x.tower(0, 2, 10);
        glow(x, 0, 1, 0, 1);
        glow(x, 1, 1, 1, 0);
        glow(x, 0, 1, 1, 0);
        glow(x, 0, 2, 0, 1);
        return x;
    }

    /** Fires whose patches are the one square (0, 1), (2, 1) and so on, n of them. */
    static SmokeWatch fires(int n) {
        SmokeWatch x = flat(2 * n, 8);
        for (int f = 0; f < n; f++) {
            x.report(2 * f, 0, 0, 0, 1, 0);
            x.report(2 * f, 2, 0, 0, -1, 0);
            x.begin(2 * f);
            x.join(2 * f + 1, f);
        }
        return x;
    }

    static int num(boolean b) {
        return b ? 1 : 0;
    }
}

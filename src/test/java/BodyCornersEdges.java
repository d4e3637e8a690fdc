import java.nio.charset.StandardCharsets;

/** The words that "## Terms" tells (parts 1 to 4), sentence by sentence, on both sides of each bound. */
public final class BodyCornersEdges {
    private static final int NONE = BodyCorners.NONE;
    private static final int NOT = BodyCorners.NOT;

    private static int passed = 0;
    private static int failed = 0;

    private static void due(String what, long got, long want) {
        if (got == want) {
            passed++;
        } else {
            failed++;
            System.out.println(what + " answered " + got + ", due is " + want);
        }
    }

    private static BodyCorners with(String text) {
        BodyCorners x = new BodyCorners();
        for (byte sign : text.getBytes(StandardCharsets.ISO_8859_1)) {
            x.feed(1, sign);
        }
        due("read of '" + text + "' goes well", x.read() >= 0 ? 1 : 0, 1);
        return x;
    }

    private static int make(BodyCorners x, int d, int... numbers) {
        x.wipe();
        for (int at = 0; at + d <= numbers.length; at += d) {
            x.point(numbers[at], numbers[at + 1], d > 2 ? numbers[at + 2] : 0, d > 3 ? numbers[at + 3] : 0);
        }
        return x.body(d);
    }

    private static BodyCorners one(int d, int... numbers) {
        BodyCorners x = new BodyCorners();
        due("a body of the test itself", make(x, d, numbers), 0);
        return x;
    }

    /** Just these CORNERS, in this order. */
    private static void places(String what, BodyCorners x, int i, int... numbers) {
        int d = x.about(i, 0);
        due(what + ", how many numbers", x.about(i, 1) * d, numbers.length);
        for (int at = 0; at < numbers.length; at++) {
            due(what + ", corner " + at / d + " axis " + at % d, x.corner(i, at / d, at % d), numbers[at]);
        }
    }

    private static void cells(String what, BodyCorners x, int i, int k, int... sets) {
        due(what + ", how many of " + k, x.faces(i, k), sets.length);
        for (int j = 0; j < sets.length; j++) {
            due(what + ", " + j + " of " + k, x.face(i, k, j), sets[j]);
        }
    }

    // ---- 1: points, corners, cells

    private static void pointsThatAreNoCorners() {
        places("of like ones the first", one(2, 2, 2, 6, 0, 6, 0, 0, 0, 0, 6, 0, 0, 6, 0, 0, 6), 0, 6, 0, 0, 0, 0, 6);
        places("in the middle of a side", one(2, 0, 0, 3, 3, 6, 0, 0, 6), 0, 0, 0, 6, 0, 0, 6);
        places("a place beyond a side", one(2, 0, 0, 3, 4, 6, 0, 0, 6), 0, 0, 0, 3, 4, 6, 0, 0, 6);
        places("near the end of a long side", one(2, -999, -999, 999, 999, 998, 998, 999, -999), 0,
                -999, -999, 999, 999, 999, -999);
        places("a place beyond a long side", one(2, -999, -999, 999, 999, 997, 998, 999, -999), 0,
                -999, -999, 999, 999, 997, 998, 999, -999);
        places("inside", one(2, 1, 1, 0, 0, 6, 0, 0, 6), 0, 0, 0, 6, 0, 0, 6);
        int[] solid = {0, 0, 0, 6, 0, 0, 0, 6, 0, 0, 0, 6, 0, 0, 0};
        int[][] inner = {{3, 3, 0}, {3, 0, 0}, {2, 2, 2}, {1, 1, 1}, {0, 0, 6}, {1, 2, 0}};
        int[][] outer = {{3, 4, 0}, {0, -1, 3}, {2, 2, 3}, {-1, 1, 1}, {0, 0, 7}, {1, 2, -1}};
        for (int p = 0; p < 6; p++) {
            System.arraycopy(inner[p], 0, solid, 12, 3);
            due("in 3, inner " + p, one(3, solid).about(0, 1), 4);
            System.arraycopy(outer[p], 0, solid, 12, 3);
            due("in 3, outer " + p, one(3, solid).about(0, 1), p == 4 ? 4 : 5);
        }
        int[] four = {0, 0, 0, 0, 8, 0, 0, 0, 0, 8, 0, 0, 0, 0, 8, 0, 0, 0, 0, 8, 0, 0, 0, 0};
        int[][] within = {{4, 4, 0, 0}, {2, 2, 4, 0}, {2, 2, 2, 2}, {1, 1, 1, 1}, {0, 0, 0, 8}, {0, 1, 0, 0}};
        int[][] beyond = {{4, 5, 0, 0}, {2, 2, 5, 0}, {2, 2, 2, 3}, {1, 1, -1, 1}, {0, 1, 0, 8}, {0, 1, 0, -1}};
        for (int p = 0; p < 6; p++) {
            System.arraycopy(within[p], 0, four, 20, 4);
            due("in 4, inner " + p, one(4, four).about(0, 1), 5);
            System.arraycopy(beyond[p], 0, four, 20, 4);
            due("in 4, outer " + p, one(4, four).about(0, 1), 6);
        }
    }

    private static void sixteenPoints() {
        int[] line = new int[32];
        int[] bow = new int[48];
        for (int t = 0; t < 16; t++) {
            line[2 * t] = t;
            line[2 * t + 1] = 3 * t;
            bow[3 * t] = t - 8;
            bow[3 * t + 1] = (t - 8) * (t - 8);
            bow[3 * t + 2] = (t - 8) * (t - 8) * (t - 8);
        }
        due("16 on a line", make(new BodyCorners(), 2, line), NOT);
        line[31] = 46;
        BodyCorners thin = one(2, line);
        places("15 on a line and one beside it", thin, 0, 0, 0, 14, 42, 15, 46);
        BodyCorners round = one(3, bow);
        due("16 CORNERS in 3", round.about(0, 1), 16);
        due("42 EDGES", round.faces(0, 1), 42);
        due("28 FACETS", round.faces(0, 2), 28);
        due("16 CORNERS in 2", with("round 2 of 16;").faces(0, 1), 16);
        BodyCorners cube = with("cube 4;");
        cells("16 CORNERS in 4", cube, 0, 3, 255, 3855, 13107, 21845, 43690, 52428, 61680, 65280);
    }

    /** One coordinate past D is not looked at: the first D alone are. */
    private static void firstCoordinates() {
        BodyCorners x = new BodyCorners();
        x.point(0, 0, 5, 1);
        x.point(7, 0, 6, 2);
        x.point(0, 7, 8, 3);
        x.point(0, 0, 9, 5);
        due("in 2", x.body(2), 0);
        places("the first two", x, 0, 0, 0, 7, 0, 0, 7);
        x.point(0, 0, 5, 1);
        x.point(7, 0, 6, 2);
        x.point(0, 7, 8, 3);
        x.point(0, 0, 9, 5);
        x.point(0, 0, 5, 7);
        due("flat in 4?", x.body(4), 1);
        due("five of them", x.about(1, 1), 5);
        x.point(0, 0, 5, 1);
        x.point(7, 0, 6, 2);
        x.point(0, 7, 8, 3);
        x.point(0, 0, 9, 5);
        due("in 3", x.body(3), 2);
        places("the first three", x, 2, 0, 0, 5, 7, 0, 6, 0, 7, 8, 0, 0, 9);
    }

    /** Nor do coordinates past D keep like POINTS apart, or make them high, or count anywhere else. */
    private static void coordinatesPastD() {
        BodyCorners x = new BodyCorners();
        int[] solid = {0, 0, 0, 5, 3, 0, 0, 6, 0, 3, 0, 7, 3, 0, 0, 8, 0, 0, 3, 9, 0, 0, 0, -5};
        for (int at = 0; at < solid.length; at += 4) {
            x.point(solid[at], solid[at + 1], solid[at + 2], solid[at + 3]);
        }
        due("in 3", x.body(3), 0);
        places("like but for w", x, 0, 0, 0, 0, 3, 0, 0, 0, 3, 0, 0, 0, 3);
        x.tilt(0, 0, 0, 99);
        due("level", x.up(0, 0, 1), 0);
        due("of height 0", x.up(0, 3, 2), 0);
        due("SIZE", x.size(0), 27);
        due("WHOLE places", x.whole(0, 1, 0), 20);
        due("cut", x.cut(0, 1, 0, 0, 9, 1), 1);
        x.point(1, 1, 1, 999);
        due("in a FACET", x.where(0), 2);
        x.wipe();
        int[] flat = {0, 0, 5, 1, 3, 0, 6, 2, 0, 3, 7, 3, 3, 0, 8, 4, 0, 0, 9, -1};
        for (int at = 0; at < flat.length; at += 4) {
            x.point(flat[at], flat[at + 1], flat[at + 2], flat[at + 3]);
        }
        int low = x.body(2);
        places("like but for z, w", x, low, 0, 0, 3, 0, 0, 3);
        x.tilt(0, 0, 99, 99);
        due("level", x.up(low, 0, 1), 0);
        due("of height 0", x.up(low, 2, 2), 0);
        due("SIZE of 2", x.size(low), 9);
        due("WHOLE places of 2", x.whole(low, 1, 0), 10);
        x.point(1, 1, 999, 999);
        due("INSIDE", x.where(low), 2);
    }

    private static void cellsByTheirSets() {
        BodyCorners last = one(3, 0, 0, 0, 4, 0, 0, 0, 4, 0, 4, 4, 0, 1, 1, 3);
        cells("a roof", last, 0, 2, 15, 19, 21, 26, 28);
        cells("a roof", last, 0, 1, 3, 5, 10, 12, 17, 18, 20, 24);
        cells("a roof", last, 0, 0, 1, 2, 4, 8, 16);
        due("one FACET has four", last.about(0, 3), 0);
        due("one CORNER is in four", last.about(0, 4), 0);
        BodyCorners first = one(3, 1, 1, 3, 0, 0, 0, 4, 0, 0, 0, 4, 0, 4, 4, 0);
        cells("its spire first", first, 0, 2, 7, 11, 21, 25, 30);
        due("the last FACET has four", first.about(0, 3), 0);
        due("the first CORNER is in four", first.about(0, 4), 0);
        BodyCorners pile = with("round 2 of 15;");
        due("a pyramid on 15", pile.raise(0, 1, 9), 1);
        due("its base", pile.face(1, 2, 0), 32767);
        due("16 FACETS", pile.faces(1, 2), 16);
        due("30 EDGES", pile.faces(1, 1), 30);
        due("15 meet in the last CORNER", pile.lies(1, 0, 15, 2), 15);
        due("three in another", pile.lies(1, 0, 14, 2), 3);
        cells("a triangle", one(2, 0, 0, 0, 5, 5, 0), 0, 1, 3, 5, 6);
        cells("five points of 4", with("corner 4;"), 0, 3, 15, 23, 27, 29, 30);
        cells("five points of 4", with("corner 4;"), 0, 2, 7, 11, 13, 14, 19, 21, 22, 25, 26, 28);
        cells("five points of 4", with("corner 4;"), 0, 1, 3, 5, 6, 9, 10, 12, 17, 18, 20, 24);
    }

    private static void kinds(String what, BodyCorners x, int i, int simpleFaced, int eachD) {
        due(what + " SIMPLE-FACED", x.about(i, 3), simpleFaced);
        due(what + " EACH-D", x.about(i, 4), eachD);
    }

    private static void simpleAndEach() {
        BodyCorners x = with("corner 3; cube 3; cross 3; corner 2; round 2 of 9; corner 4; cube 4; cross 4; round 4 of 6;");
        kinds("tetrahedron", x, 0, 1, 1);
        kinds("cube", x, 1, 0, 1);
        kinds("cross", x, 2, 1, 0);
        kinds("triangle", x, 3, 1, 1);
        kinds("nine sides", x, 4, 1, 1);
        kinds("simplex of 4", x, 5, 1, 1);
        kinds("cube of 4", x, 6, 0, 1);
        kinds("cross of 4", x, 7, 1, 0);
        kinds("round of 4", x, 8, 1, 0);
        kinds("a prism on three", x, x.raise(3, 0, 1), 0, 1);
        kinds("a double on three", x, x.raise(3, 2, 1), 1, 0);
        kinds("a prism on a tetrahedron", x, x.raise(0, 0, 1), 0, 1);
        kinds("a pyramid on a cross", x, x.raise(2, 1, 1), 0, 0);
        kinds("three times three", x, x.product(3, 3), 0, 1);
        kinds("a tetrahedron without a CORNER", x, x.cut(0, -3, -3, -3, 0, -2), 0, 1);
        kinds("that CORNER", x, x.cut(0, 3, 3, 3, 0, 2), 1, 1);
    }

    private static void hCounts() {
        int[][] want = {{1, 1, 1, 1}, {1, 3, 3, 1}, {1, 2, 2, 1}, {1, 13 - 3, 13 - 3, 1}};
        BodyCorners x = with("corner 3; cross 3; round 3 of 5; corner 2; cross 4; corner 4;");
        make(x, 3, roundOf(13));
        int[] which = {0, 1, 2, 6};
        for (int b = 0; b < which.length; b++) {
            for (int k = 0; k <= 3; k++) {
                due("h " + k + " of " + b, x.h(which[b], k), want[b][k]);
            }
        }
        due("sum of 2", x.sum(3), 0);
        due("sum of 3", x.sum(6), 2);
        due("sum of 4", x.sum(4), 0);
        for (int k = 0; k <= 4; k++) {
            due("h " + k + " of a simplex", x.h(5, k), 1);
        }
    }

    private static int[] roundOf(int many) {
        int[] numbers = new int[3 * many];
        for (int t = 0; t < many; t++) {
            numbers[3 * t] = t;
            numbers[3 * t + 1] = t * t;
            numbers[3 * t + 2] = t * t * (9 - t);
        }
        return numbers;
    }

    private static void lying() {
        BodyCorners x = with("corner 4; cube 3; cube 2;");
        int[][] simplex = {{1, 4, 6, 4}, {2, 1, 3, 3}, {3, 3, 1, 2}, {4, 6, 4, 1}};
        for (int k = 0; k < 4; k++) {
            for (int l = 0; l < 4; l++) {
                due("simplex " + k + " " + l, x.lies(0, k, 1, l), simplex[k][l]);
            }
        }
        int[][] cube = {{1, 3, 3}, {2, 1, 2}, {4, 4, 1}};
        for (int k = 0; k < 3; k++) {
            for (int l = 0; l < 3; l++) {
                due("cube " + k + " " + l, x.lies(1, k, 5, l), cube[k][l]);
            }
        }
        int[][] square = {{1, 2}, {2, 1}};
        for (int k = 0; k < 2; k++) {
            for (int l = 0; l < 2; l++) {
                due("square " + k + " " + l, x.lies(2, k, 3, l), square[k][l]);
            }
        }
    }

    // ---- 2: ways to make a body of others

    private static void cuts() {
        BodyCorners x = with("cube 3; cross 3; cube 4;");
        places("half a cube", x, x.cut(0, 0, 0, 2, 0, 1), 0, 0, 0, 2, 0, 0, 0, 2, 0, 2, 2, 0,
                0, 0, 1, 2, 0, 1, 0, 2, 1, 2, 2, 1);
        places("the other half", x, x.cut(0, 0, 0, -2, 0, -1), 0, 0, 2, 2, 0, 2, 0, 2, 2, 2, 2, 2,
                0, 0, 1, 2, 0, 1, 0, 2, 1, 2, 2, 1);
        places("CORNERS where it is b stay", x, x.cut(1, 1, 0, 0, 0, 0), -1, 0, 0, 0, 1, 0, 0, -1, 0, 0, 0, 1, 0, 0, -1);
        places("EDGES that end there are not cut", x, x.cut(0, 1, 1, 1, 0, 1), 0, 0, 0, 1, 0, 0, 0, 1, 0, 0, 0, 1);
        places("all of it", x, x.cut(1, 1, 1, 1, 0, 1), 1, 0, 0, -1, 0, 0, 0, 1, 0, 0, -1, 0, 0, 0, 1, 0, 0, -1);
        places("far from it", x, x.cut(1, 9, 9, 9, 0, 9999), 1, 0, 0, -1, 0, 0, 0, 1, 0, 0, -1, 0, 0, 0, 1, 0, 0, -1);
        BodyCorners y = one(2, 0, -1, 1, 3, 11, 5, 10, -1);
        int both = y.cut(0, 0, 1, 0, 0, 0);
        due("SCALE of 4 and 6", y.about(both, 2), 12);
        places("times 12", y, both, 0, -12, 120, -12, 3, 0, 122, 0);
        scale("whole, though by 4", 1, 0, -2, 2, 2, 4, -2);
        scale("half, though by 4", 2, 0, -2, 1, 2, 4, -2);
        scale("a third below 0", 3, 0, -1, -1, 2, -3, -1);
        scale("a fourth and a half", 4, 0, -1, 1, 3, 9, 1, 8, -1);
        BodyCorners z = one(3, 0, 0, 0, 6, 0, 0, 0, 6, 0, 0, 0, 6);
        int thirds = z.cut(0, 9, 0, 0, 0, 4);
        due("SCALE by the plane's own number", z.about(thirds, 2), 9);
        places("a cut near CORNER 0", z, thirds, 0, 0, 0, 0, 54, 0, 0, 0, 54, 4, 0, 0, 4, 50, 0, 4, 0, 50);
        due("a cut of it: SCALE anew", z.about(z.cut(thirds, 0, 1, 0, 0, 25), 2), 1);
        for (int k = 0; k < 4; k++) {
            int[] slim = new int[20];
            for (int axis = 0; axis < 4; axis++) {
                slim[4 * (axis + 1) + axis] = axis == k ? 3 : 2;
            }
            int[] a = {0, 0, 0, 0};
            a[k] = 1;
            BodyCorners four = one(4, slim);
            due("thirds on axis " + k, four.about(four.cut(0, a[0], a[1], a[2], a[3], 1), 2), 3);
            due("sevenths of all axes", four.about(four.cut(0, 2, 2, 2, 2, 3), 2), 2);
            due("all of " + k, four.about(four.cut(0, a[0], a[1], a[2], a[3], 3), 2), 1);
            due("all of " + k, four.cut(0, a[0], a[1], a[2], a[3], 0), NOT);
        }
    }

    /** Of a BODY cut where coordinate 1 is 0. */
    private static void scale(String what, int want, int... numbers) {
        BodyCorners x = one(2, numbers);
        due("SCALE, " + what, x.about(x.cut(0, 0, 1, 0, 0, 0), 2), want);
    }

    private static void slices() {
        BodyCorners x = one(3, 0, 0, 0, 2, 0, 3, 0, 2, 3, 2, 2, 5);
        int mid = x.slice(0, 2, 1);
        due("SCALE 15", x.about(mid, 2), 15);
        places("EDGES by their numbers", x, mid, 10, 0, 0, 10, 6, 6);
        due("through a CORNER", x.slice(0, 2, 3), 2);
        places("CORNERS there first", x, 2, 10, 0, 0, 10, 6, 6);
        due("SCALE 5", x.about(2, 2), 5);
        BodyCorners y = one(3, 0, 0, 0, 0, 3, 0, 0, 0, 3, 7, 0, 0);
        due("the coordinate left out is no part of SCALE", y.about(y.slice(0, 0, 0), 2), 1);
        places("left out is coordinate 0", y, 1, 0, 0, 3, 0, 0, 3);
        due("sevenths", y.about(y.slice(0, 0, 1), 2), 7);
        places("three EDGES", y, 2, 0, 0, 18, 0, 0, 18);
        BodyCorners z = with("cube 4; cross 4;");
        for (int k = 0; k < 4; k++) {
            int low = z.slice(0, k, 0);
            due("a FACET of a cube, " + k, z.about(low, 1), 8);
            due("in 3", z.about(low, 0), 3);
            for (int c = 0; c < 8; c++) {
                for (int axis = 0; axis < 3; axis++) {
                    due("in their order, " + k, z.corner(low, c, axis), c >> axis & 1);
                }
            }
            int mids = z.slice(1, k, 0);
            places("the middle of a cross, " + k, z, mids, 1, 0, 0, -1, 0, 0, 0, 1, 0, 0, -1, 0, 0, 0, 1, 0, 0, -1);
        }
    }

    private static void shadows() {
        BodyCorners x = one(3, 1, 2, 3, 4, 5, 7, 6, 1, 0, 2, 2, 9, 3, 3, 4);
        places("without 0", x, x.shadow(0, 0), 5, 7, 1, 0, 2, 9);
        places("without 1", x, x.shadow(0, 1), 1, 3, 4, 7, 6, 0, 2, 9);
        places("without 2", x, x.shadow(0, 2), 1, 2, 4, 5, 6, 1);
        BodyCorners y = with("cube 3; cube 4;");
        places("like ones once", y, y.shadow(0, 2), 0, 0, 1, 0, 0, 1, 1, 1);
        due("eight of 16", y.about(y.shadow(1, 3), 1), 8);
        due("a D less", y.about(3, 0), 3);
    }

    private static void raises() {
        BodyCorners x = one(2, 5, 1, 9, 1, 5, 4);
        places("PRISM", x, x.raise(0, 0, 7), 5, 1, 0, 9, 1, 0, 5, 4, 0, 5, 1, 7, 9, 1, 7, 5, 4, 7);
        places("PYRAMID", x, x.raise(0, 1, 99), 5, 1, 0, 9, 1, 0, 5, 4, 0, 5, 1, 99);
        places("DOUBLE", x, x.raise(0, 2, 1), 15, 3, 0, 27, 3, 0, 15, 12, 0, 19, 6, 1, 19, 6, -1);
        BodyCorners y = one(3, 1, 2, 3, 5, 2, 3, 1, 7, 3, 1, 2, 9);
        places("PRISM of 4", y, y.raise(0, 0, 1), 1, 2, 3, 0, 5, 2, 3, 0, 1, 7, 3, 0, 1, 2, 9, 0,
                1, 2, 3, 1, 5, 2, 3, 1, 1, 7, 3, 1, 1, 2, 9, 1);
        places("PYRAMID of 4", y, y.raise(0, 1, 2), 1, 2, 3, 0, 5, 2, 3, 0, 1, 7, 3, 0, 1, 2, 9, 0, 1, 2, 3, 2);
        places("DOUBLE of 4", y, y.raise(0, 2, 99), 4, 8, 12, 0, 20, 8, 12, 0, 4, 28, 12, 0, 4, 8, 36, 0,
                8, 13, 18, 99, 8, 13, 18, -99);
        due("SCALE of a PRISM of a cut", y.about(y.raise(y.cut(0, 2, 0, 0, 0, 3), 0, 1), 2), 1);
    }

    private static void productsAndBoths() {
        BodyCorners x = one(2, 1, 2, 4, 2, 1, 3);
        make(x, 2, 7, 7, 7, 9, 8, 7);
        places("PRODUCT", x, x.product(0, 1), 1, 2, 7, 7, 1, 2, 7, 9, 1, 2, 8, 7, 4, 2, 7, 7, 4, 2, 7, 9, 4, 2, 8, 7,
                1, 3, 7, 7, 1, 3, 7, 9, 1, 3, 8, 7);
        places("BOTH", x, x.both(0, 1), 1, 2, 4, 2, 1, 3, 7, 9, 8, 7);
        places("BOTH the other way", x, x.both(1, 0), 7, 9, 8, 7, 1, 2, 4, 2, 1, 3);
        BodyCorners y = with("corner 3; cube 3; cross 3;");
        places("POINTS alike once", y, y.both(0, 1), 0, 0, 0, 1, 0, 0, 0, 1, 0, 0, 0, 1, 1, 1, 0, 1, 0, 1, 0, 1, 1, 1, 1, 1);
        places("itself", y, y.both(0, 0), 0, 0, 0, 1, 0, 0, 0, 1, 0, 0, 0, 1);
        places("one in the other", y, y.both(0, 2), 1, 0, 0, 0, 1, 0, 0, 0, 1, -1, 0, 0, 0, -1, 0, 0, 0, -1);
    }

    /** BODIES never change, whatever is made of them and whatever becomes of THE DRAFT, TILT and the rest. */
    private static void neverChange() {
        BodyCorners x = with("cube 2; cube 3; cube 4;");
        int told = make(x, 3, 1, 2, 3, 9, 2, 3, 1, 8, 3, 1, 2, 7);
        int[] before = seenOf(x, told);
        due("a cut", x.cut(told, 1, 1, 1, 0, 9), 4);
        due("a slice", x.slice(told, 2, 4), 5);
        due("a shadow", x.shadow(told, 1), 6);
        due("a prism", x.raise(told, 0, 9), 7);
        due("a pyramid", x.raise(told, 1, 9), 8);
        due("a double", x.raise(told, 2, 9), 9);
        due("both", x.both(told, 1), 10);
        due("both the other way", x.both(1, told), 11);
        due("a product", x.product(0, 0), 12);
        due("of other POINTS", make(x, 3, 5, 5, 5, 6, 5, 5, 5, 6, 5, 5, 5, 6), 13);
        x.point(7, 7, 7, 7);
        x.tilt(9, 9, 9, 9);
        x.wipe();
        x.ring(told, 0);
        x.whole(told, 2, 1);
        int[] after = seenOf(x, told);
        for (int at = 0; at < before.length; at++) {
            due("it has not changed, at " + at, after[at], before[at]);
        }
        places("its CORNERS", x, told, 1, 2, 3, 9, 2, 3, 1, 8, 3, 1, 2, 7);
        places("a square", x, 0, 0, 0, 1, 0, 0, 1, 1, 1);
    }

    private static int[] seenOf(BodyCorners x, int i) {
        int[] seen = new int[24];
        for (int what = 0; what < 7; what++) {
            seen[what] = x.about(i, what);
        }
        for (int k = 0; k < 4; k++) {
            seen[7 + k] = x.faces(i, k);
            seen[11 + k] = x.face(i, 2, k);
            seen[15 + k] = x.face(i, 1, k);
            seen[19 + k] = x.h(i, k);
        }
        seen[23] = (int) x.size(i);
        return seen;
    }

    /** SCALE is 1 but of a CUT and a SLICE, even where the BODY that it was made of has another. */
    private static void scaleOne() {
        BodyCorners x = with("cube 2; cross 3; corner 4; round 2 of 3;");
        int told = make(x, 3, 0, 0, 0, 2, 0, 0, 0, 2, 0, 0, 0, 2);
        int low = x.cut(told, 0, 0, 2, 0, 1);
        int flat = x.slice(told, 0, 1);
        int part = x.cut(0, 2, 0, 0, 0, 1);
        due("a CUT", x.about(low, 2), 2);
        due("a CUT of 2", x.about(part, 2), 2);
        due("a SLICE", x.about(flat, 2), 1);
        int[] ones = {0, 1, 2, 3, told, x.shadow(low, 0), x.raise(low, 0, 1), x.raise(low, 1, 1), x.raise(low, 2, 1),
            x.product(part, part), x.product(part, 3), x.both(low, low), x.both(told, low)};
        for (int at = 0; at < ones.length; at++) {
            due("SCALE of way " + at, x.about(ones[at], 2), 1);
        }
    }

    // ---- 3: patterns

    private static void sames() {
        BodyCorners x = with("round 3 of 6; cross 3; cube 3; round 2 of 3; round 2 of 4; cube 2; round 2 of 16;");
        due("six CORNERS, eight FACETS each", x.same(0, 1), 0);
        due("likewise the other way", x.same(1, 0), 0);
        int wedge = make(x, 3, 0, 0, 0, 6, 0, 0, 6, 6, 0, 0, 6, 0, 3, 0, 3, 3, 6, 3);
        int prism = x.raise(3, 0, 1);
        due("a wedge and a prism", x.same(wedge, prism), 1);
        int chip = x.cut(prism, 4, 4, 4, 0, 27);
        due("a chipped prism has eight CORNERS", x.about(chip, 1), 8);
        due("as a cube has", x.faces(chip, 2), x.faces(2, 2));
        due("as many EDGES, too", x.faces(chip, 1), x.faces(2, 1));
        due("but another pattern", x.same(chip, 2), 0);
        due("three and four sides", x.same(3, 4), 0);
        due("four and four", x.same(4, 5), 1);
        due("TURNS of 16 sides", x.about(6, 5), 32);
        due("TURNS of three sides", x.about(3, 5), 6);
        due("TURNS of a prism", x.about(prism, 5), 12);
        due("TURNS of six CORNERS on a round", x.about(0, 5), 4);
        due("TURNS of a cube's half", x.about(x.raise(4, 1, 1), 5), 8);
    }

    /** As many CORNERS, but not as many FACETS: never the SAME PATTERN, nor INSIDE OUT, nor MADE. */
    private static void notAsMany() {
        BodyCorners x = with("cube 2; corner 2; corner 3; round 4 of 6;");
        int pile = x.raise(0, 1, 1);
        int twice = x.raise(1, 2, 1);
        due("five CORNERS, five FACETS", x.about(pile, 1) * 10 + x.faces(pile, 2), 55);
        due("five CORNERS, six FACETS", x.about(twice, 1) * 10 + x.faces(twice, 2), 56);
        due("fewer FACETS", x.same(pile, twice), 0);
        due("more FACETS", x.same(twice, pile), 0);
        due("fewer FACETS, inside out", x.inside(pile, twice), 0);
        due("more FACETS, inside out", x.inside(twice, pile), 0);
        int prism = x.raise(1, 0, 1);
        due("six CORNERS, five FACETS", x.about(prism, 1) * 10 + x.faces(prism, 2), 65);
        due("as many FACETS as the other has CORNERS, not the other way", x.inside(prism, pile), 0);
        due("likewise", x.inside(pile, prism), 0);
        due("both ways", x.inside(prism, twice), 1);
        int doubled = x.raise(2, 2, 1);
        due("six of 4: 9 FACETS", x.faces(3, 3), 9);
        due("six of 4: 8 FACETS", x.faces(doubled, 3), 8);
        due("9 and 8", x.same(3, doubled), 0);
        due("8 and 9", x.same(doubled, 3), 0);
        int[] eight = new int[8];
        for (int j = 0; j < 8; j++) {
            eight[j] = x.face(doubled, 3, j);
        }
        due("MADE by the one that has as many", place(x, 4, 6, eight), 100 + doubled);
        BodyCorners y = with("round 4 of 6;");
        due("OPEN: not as many", place(y, 4, 6, eight), 0);
        BodyCorners z = with("corner 3;");
        z.raise(0, 2, 1);
        due("OPEN: not as many, the other way", place(z, 4, 6, sixOfFour()), 0);
    }

    private static void insides() {
        BodyCorners x = with("cube 3; cross 3; corner 2; round 2 of 8; round 2 of 9; corner 4; round 4 of 6;");
        int prism = x.raise(2, 0, 1);
        int twice = x.raise(2, 2, 1);
        due("a prism and a double", x.inside(prism, twice), 1);
        due("a double and a prism", x.inside(twice, prism), 1);
        due("a prism and itself", x.inside(prism, prism), 0);
        due("a cube and a double on three", x.inside(0, twice), 0);
        due("eight sides", x.inside(3, 3), 1);
        due("eight and nine sides", x.inside(3, 4), 0);
        due("five POINTS of 4", x.inside(5, 5), 1);
        due("six of 4 and itself", x.inside(6, 6), 0);
        int nine = x.product(2, 2);
        due("six of 4 and three times three", x.inside(6, nine), 1);
        due("three times three and six of 4", x.inside(nine, 6), 1);
        BodyCorners y = with("round 3 of 10;");
        due("16 FACETS", y.faces(0, 2), 16);
        int eleven = make(y, 3, roundOf(11));
        due("18 FACETS", y.faces(eleven, 2), 18);
        due("more FACETS than a BODY has CORNERS", y.inside(eleven, eleven), 0);
        due("10 CORNERS, 16 FACETS", y.inside(0, 0), 0);
        BodyCorners z = with("cube 4; cross 4; round 2 of 15;");
        due("16 FACETS of a cross", z.inside(0, 1), 1);
        due("16 CORNERS of a cube", z.inside(1, 0), 1);
        int pile = z.raise(2, 1, 5);
        due("a pyramid on 15 is its own", z.inside(pile, pile), 1);
    }

    private static int place(BodyCorners x, int d, int corners, int... sets) {
        x.pattern(corners);
        for (int at = 0; at < sets.length; at++) {
            due("set " + sets[at], x.set(sets[at]), at + 1);
        }
        return x.place(d);
    }

    private static void laws() {
        BodyCorners x = new BodyCorners();
        due("all LAWS: a triangle", place(x, 2, 3, 3, 5, 6), 0);
        due("1: a corner in none", place(x, 2, 4, 3, 5, 6), 1);
        due("1: the first in none", place(x, 2, 4, 6, 10, 12), 1);
        due("1 ahead of 2", place(x, 2, 4, 3, 5), 1);
        due("1 ahead of 3", place(x, 2, 7, 3, 5, 6, 24, 40, 48), 1);
        due("1 ahead of 4", place(x, 3, 8, RING_LIKE), 1);
        due("2: a part in one", place(x, 2, 3, 3, 5), 2);
        due("2: a part in three", place(x, 2, 4, 3, 5, 6, 9), 2);
        due("2: a part in four", place(x, 2, 5, 3, 5, 6, 9, 17, 24), 2);
        due("2 ahead of 3", place(x, 2, 6, 3, 5, 6, 24, 40), 2);
        due("2 ahead of 3, by a corner", place(x, 2, 5, 3, 6, 5, 20, 24, 12), 2);
        due("2: in 3, one alone", place(x, 3, 3, 7), 2);
        due("2: in 4, one alone", place(x, 4, 4, 15), 2);
        due("3: two triangles", place(x, 2, 6, 3, 5, 6, 24, 40, 48), 3);
        due("3: two in 3", place(x, 3, 8, 7, 11, 13, 14, 112, 176, 208, 224), 3);
        due("3: two in 3 with a corner in common", place(x, 3, 7, 7, 11, 13, 14, 56, 88, 104, 112), 3);
        due("3: two in 4 with a corner in common", place(x, 4, 9, 15, 23, 27, 29, 30,
                240, 368, 432, 464, 480), 3);
        due("3 ahead of 4", place(x, 3, 7, 7, 11, 13, 14, 56, 88, 104, 112), 3);
        due("4: a ring of seven corners", place(x, 3, 7, RING_LIKE), 4);
        due("4: turned in itself, six corners", place(x, 3, 6, 7, 13, 25, 49, 35, 22, 44, 26, 52, 42), 4);
        due("all in 3", place(x, 3, 4, 7, 11, 13, 14), 0);
        due("all in 4", place(x, 4, 5, 15, 23, 27, 29, 30), 0);
        due("twelve sides", place(x, 2, 12, 3, 6, 12, 24, 48, 96, 192, 384, 768, 1536, 3072, 2049), 0);
    }

    /** Seven corners, each pair beside: 14 SETS that lie as on a ring. */
    private static final int[] RING_LIKE = {11, 13, 22, 26, 44, 52, 88, 104, 49, 81, 98, 35, 69, 70};

    private static void twistedInFour() {
        int[] six = {7, 13, 25, 49, 35, 22, 44, 26, 52, 42};
        BodyCorners x = new BodyCorners();
        x.pattern(8);
        for (int s = 0; s < six.length; s++) {
            x.set(six[s] | 64);
            x.set(six[s] | 128);
        }
        due("20 SETS", x.count(3), 20);
        due("4 in 4: a twisted one between two", x.place(4), 4);
    }

    private static void madeOnes() {
        BodyCorners x = with("round 2 of 5; corner 3; cube 3; corner 3; cross 3; round 4 of 6; cross 4; round 2 of 5;");
        due("MADE: the first", place(x, 2, 5, 17, 3, 6, 12, 24), 100);
        due("MADE: another way round", place(x, 2, 5, 5, 20, 18, 10, 9), 100);
        due("MADE: the first of two", place(x, 3, 4, 14, 13, 11, 7), 101);
        due("OPEN: six sides", place(x, 2, 6, 3, 6, 12, 24, 48, 33), 0);
        due("MADE in 3", place(x, 3, 6, 21, 22, 25, 26, 37, 38, 41, 42), 104);
        due("a cross by other names", place(x, 3, 6, 7, 14, 21, 28, 35, 42, 49, 56), 104);
        due("MADE in 4", place(x, 4, 6, sixOfFour()), 105);
        int[] cross = new int[16];
        for (int s = 0; s < 16; s++) {
            for (int axis = 0; axis < 4; axis++) {
                cross[s] |= 1 << 2 * axis + (s >> axis & 1);
            }
        }
        due("MADE with 16 SETS", place(x, 4, 8, cross), 106);
        due("no such D", x.place(3), NOT);
    }

    private static int[] sixOfFour() {
        BodyCorners x = with("round 4 of 6;");
        int[] sets = new int[x.faces(0, 3)];
        for (int j = 0; j < sets.length; j++) {
            sets[j] = x.face(0, 3, j);
        }
        return sets;
    }

    // ---- 3: the row

    private static int meets(BodyCorners x, int i, int... facets) {
        x.clear();
        for (int facet : facets) {
            x.row(facet);
        }
        return x.meets(i);
    }

    private static void rows() {
        BodyCorners x = with("cross 3; round 2 of 6; corner 4; cross 4;");
        due("none", meets(x, 0), NONE);
        for (int f = 0; f < 8; f++) {
            due("place 0 meets", meets(x, 0, f), NONE);
        }
        // sides of six: 3, 6, 12, 24, 33, 48
        due("round about", meets(x, 1, 0, 1, 2, 3, 5, 4), NONE);
        due("beside, then apart", meets(x, 1, 0, 1, 3), 2);
        due("apart at once", meets(x, 1, 0, 3), 1);
        due("the last place", meets(x, 1, 0, 1, 2, 4, 3, 5), NONE);
        due("the last place of five", meets(x, 1, 0, 1, 2, 4, 5, 3), NONE);
        due("the first of two that do not", meets(x, 1, 0, 2, 4), 1);
        due("none of what is ahead reaches", meets(x, 1, 2, 5, 0), 1);
        // facets of a cross: 21 22 25 26 37 38 41 42
        due("by an edge", meets(x, 0, 0, 1), NONE);
        due("by a corner", meets(x, 0, 0, 3), 1);
        due("by nothing", meets(x, 0, 0, 7), 1);
        due("all but one, across", meets(x, 0, 0, 1, 2, 7), 3);
        due("round a corner, both ways", meets(x, 0, 0, 1, 3, 2), NONE);
        due("round a corner, not joined", meets(x, 0, 0, 1, 2, 3), NONE);
        due("what is in common with the first is not in the second", meets(x, 0, 0, 1, 5, 7, 6), 4);
        freshOf(x, 0, "0 1 3 2 4 5 6 7", 1, 3, 3, 1, 0);
        freshOf(x, 1, "0 1 2 3 5 4", 1, 4, 1, 0, 0);
        freshOf(x, 1, "0 3 1 2", 2, 1, 1, 0, 0);
        freshOf(x, 2, "4 3 2 1 0", 1, 1, 1, 1, 1);
        freshOf(x, 2, "", 0, 0, 0, 0, 0);
        freshOf(x, 2, "3", 1, 0, 0, 0, 0);
        freshOf(x, 3, "0 1 2 3 4 5 6 7 8 9 10 11 12 13 14 15", 1, 4, 6, 4, 1);
    }

    private static void freshOf(BodyCorners x, int i, String row, int... want) {
        x.clear();
        for (String facet : row.isEmpty() ? new String[0] : row.split(" ")) {
            x.row(Integer.parseInt(facet));
        }
        for (int k = 0; k < want.length; k++) {
            due("NEW " + k + " of " + row, x.fresh(i, k), want[k]);
        }
    }

    // ---- 4: walks

    private static void walks() {
        BodyCorners x = with("cube 3; cross 3; corner 4; round 2 of 9; round 2 of 8;");
        for (int a = 0; a < 8; a++) {
            for (int b = 0; b < 8; b++) {
                due("cube " + a + " " + b, x.walk(0, a, b), Integer.bitCount(a ^ b));
            }
        }
        for (int a = 0; a < 6; a++) {
            for (int b = 0; b < 6; b++) {
                due("cross " + a + " " + b, x.walk(1, a, b), a == b ? 0 : (a ^ b) == 1 ? 2 : 1);
            }
        }
        due("five of 4", x.far(2), 1);
        due("nine sides", x.far(3), 4);
        due("eight sides", x.far(4), 4);
        due("across eight", x.walk(4, 1, 5), 4);
        int three = make(x, 2, 0, 0, 1, 0, 0, 1);
        due("three sides", x.far(three), 1);
    }

    private static void tilts() {
        BodyCorners x = with("cube 4; cube 3; cube 2;");
        for (int c = 0; c < 8; c++) {
            due("level at first: where", x.up(1, c, 0), c);
            due("level at first: by how many", x.up(1, c, 1), 0);
            due("level at first: how high", x.up(1, c, 2), 0);
        }
        x.tilt(1, 10, 20, 40);
        for (int c = 0; c < 16; c++) {
            due("ends at the top", x.up(0, c, 0), 15);
            due("by so many", x.up(0, c, 1), 4 - Integer.bitCount(c));
            due("there", x.up(0, c, 2), 71);
            x.tilt(-1, -10, -20, -40);
            due("down by the numbers", x.up(0, c, 0), 0);
            x.tilt(1, 10, 20, 40);
        }
        due("what is past D is not counted", x.up(1, 0, 2), 31);
        due("what is past D is not counted", x.up(2, 0, 2), 11);
        x.tilt(0, 0, 5, 5);
        due("level in 2", x.up(2, 0, 1), 0);
        x.tilt(99, 99, 99, 99);
        due("greatest", x.up(0, 0, 2), 396);
        x.tilt(-99, -99, -99, -99);
        due("least stays", x.up(0, 15, 0), 0);
    }

    private static void upOfLikeOnes() {
        BodyCorners x = one(2, 3, 0, 0, 2, -3, 0, 0, -2);
        x.tilt(0, 0, 0, 0);
        due("level: no edge goes up", x.up(0, 3, 1), 0);
        BodyCorners y = with("cross 3;");
        y.tilt(0, 1, 1, 0);
        due("of two like ones the least", y.up(0, 1, 0), 2);
        due("from below them", y.up(0, 3, 0), 4);
        due("one edge", y.up(0, 0, 1), 1);
        y.tilt(0, 1, 2, 0);
        due("the greatest, not the first", y.up(0, 0, 0), 4);
        y.tilt(-1, 0, 0, 0);
        due("one that is not beside: over another", y.up(0, 0, 0), 1);
        due("by two", y.up(0, 0, 1), 2);
        BodyCorners z = one(2, 0, 0, 1, 3, 4, 4, 7, 3, 8, 0);
        z.tilt(0, 1, 0, 0);
        due("a neighbour of its own height is not above", z.up(0, 0, 0), 2);
        due("two edges", z.up(0, 4, 1), 2);
        z.tilt(0, -1, 0, 0);
        due("like ones: the walk ends", z.up(0, 3, 0), 4);
        due("like ones: the other side", z.up(0, 1, 0), 0);
        due("below 0", z.up(0, 2, 2), 0);
    }

    private static void heightsLikeRefusals() {
        for (int want = -1005; want <= -1001; want++) {
            BodyCorners y = one(2, want + 400, -400, want + 399, -400, want + 400, -401);
            y.tilt(1, 1, 0, 0);
            due("told, though it is as a refusal", y.up(0, 0, 2), want);
        }
    }

    private static void walksUp() {
        BodyCorners x = with("cube 3; round 4 of 6; cross 3; cube 4;");
        x.tilt(1, 2, 4, 0);
        due("to itself", x.ups(0, 5, 5), 1);
        due("six", x.ups(0, 0, 7), 6);
        due("two", x.ups(0, 0, 3), 2);
        due("one", x.ups(0, 0, 4), 1);
        due("none, not above by edges", x.ups(0, 3, 4), 0);
        due("none, down", x.ups(0, 7, 0), 0);
        x.tilt(1, 1, 0, 0);
        due("level edges do not count", x.ups(0, 0, 7), 0);
        due("as high as it goes", x.ups(0, 0, 3), 2);
        due("level, to itself", x.ups(0, 7, 7), 1);
        x.tilt(1, 0, 0, 0);
        due("all of six beside each other", x.ups(1, 0, 5), 16);
        due("a part", x.ups(1, 1, 4), 4);
        due("one edge", x.ups(1, 2, 3), 1);
        x.tilt(1, 1, 1, 1);
        due("four in any order", x.ups(3, 0, 15), 24);
        x.tilt(0, 0, 0, 0);
        due("all level", x.ups(1, 0, 5), 0);
    }

    private static void rings() {
        BodyCorners x = with("corner 2; corner 3; cross 3; corner 4; round 2 of 11; cube 2;");
        ring(x, 0, 0, 1, 2);
        ring(x, 1, 0, 1, 2, 3);
        ring(x, 2, 0, 2, 1, 4, 3, 5);
        ring(x, 3, 0, 1, 2, 3, 4);
        ring(x, 4, 0, 1, 2, 3, 4, 5, 6, 7, 8, 9, 10);
        ring(x, 5, 0, 1, 3, 2);
        int prism = x.raise(0, 0, 1);
        ring(x, prism, 0, 1, 2, 5, 4, 3);
        int pile = x.raise(5, 1, 1);
        ring(x, pile, 0, 1, 3, 2, 4);
    }

    private static void ring(BodyCorners x, int i, int... want) {
        for (int k = 0; k < want.length; k++) {
            due("ring of " + i + " at " + k, x.ring(i, k), want[k]);
        }
        due("not so many", x.ring(i, want.length), NONE);
    }

    // ---- 4: places, sizes

    private static void spot(BodyCorners x, int i, int where, int parted, int... numbers) {
        x.point(numbers[0], numbers[1], numbers.length > 2 ? numbers[2] : 0, numbers.length > 3 ? numbers[3] : 0);
        StringBuilder what = new StringBuilder("at");
        for (int number : numbers) {
            what.append(' ').append(number);
        }
        due("where, " + what, x.where(i), where);
        due("parted, " + what, x.parted(i), parted);
        x.wipe();
    }

    private static void wheres() {
        BodyCorners x = one(2, 0, 0, 6, 0, 0, 6);
        spot(x, 0, 0, NONE, 0, 0);
        spot(x, 0, 0, NONE, 0, 6);
        spot(x, 0, 1, NONE, 3, 0);
        spot(x, 0, 1, NONE, 3, 3);
        spot(x, 0, 2, NONE, 1, 1);
        spot(x, 0, 2, NONE, 3, 2);
        spot(x, 0, NONE, 2, 3, 4);
        spot(x, 0, NONE, 0, 3, -1);
        spot(x, 0, NONE, 1, -1, 3);
        spot(x, 0, NONE, 2, 7, 0);
        spot(x, 0, NONE, 1, -1, 0);
        spot(x, 0, NONE, 0, -1, -1);
        spot(x, 0, NONE, 0, 8, -1);
        // facets of a cube: z 0, y 0, x 0, x 9, y 9, z 9
        BodyCorners y = one(3, 0, 0, 0, 9, 0, 0, 0, 9, 0, 9, 9, 0, 0, 0, 9, 9, 0, 9, 0, 9, 9, 9, 9, 9);
        spot(y, 0, 0, NONE, 9, 9, 9);
        spot(y, 0, 1, NONE, 9, 9, 8);
        spot(y, 0, 2, NONE, 9, 8, 8);
        spot(y, 0, 3, NONE, 8, 8, 8);
        spot(y, 0, 3, NONE, 1, 1, 1);
        spot(y, 0, 2, NONE, 1, 1, 0);
        spot(y, 0, NONE, 0, 1, 1, -1);
        spot(y, 0, NONE, 1, 1, -1, 1);
        spot(y, 0, NONE, 2, -1, 1, 1);
        spot(y, 0, NONE, 3, 10, 1, 1);
        spot(y, 0, NONE, 4, 1, 10, 1);
        spot(y, 0, NONE, 5, 1, 1, 10);
        spot(y, 0, NONE, 3, 10, 0, 0);
        spot(y, 0, NONE, 3, 10, 10, 10);
        spot(y, 0, NONE, 0, 10, 10, -1);
        BodyCorners z = one(4, 0, 0, 0, 0, 6, 0, 0, 0, 0, 6, 0, 0, 0, 0, 6, 0, 0, 0, 0, 6);
        spot(z, 0, 0, NONE, 0, 0, 0, 6);
        spot(z, 0, 1, NONE, 0, 0, 3, 3);
        spot(z, 0, 2, NONE, 0, 2, 2, 2);
        spot(z, 0, 3, NONE, 1, 1, 2, 2);
        spot(z, 0, 3, NONE, 1, 1, 1, 0);
        spot(z, 0, 4, NONE, 1, 1, 1, 1);
        spot(z, 0, 4, NONE, 1, 1, 1, 2);
        spot(z, 0, NONE, 4, 1, 2, 2, 2);
        spot(z, 0, NONE, 0, 1, 1, 1, -1);
        spot(z, 0, NONE, 3, -1, 1, 1, 1);
        spot(z, 0, NONE, 4, 0, 0, 0, 7);
    }

    /** The last POINT of THE DRAFT counts, and the first D coordinates of it alone. */
    private static void lastPoints() {
        BodyCorners x = with("cube 2; cube 3;");
        for (int n = 1; n <= 16; n++) {
            x.point(n % 2 == 0 ? 9 : 1, 0, n % 3 == 0 ? 9 : 0, 9);
            due("where in 2, of " + n, x.where(0), n % 2 == 0 ? NONE : 0);
            due("where in 3, of " + n, x.where(1), n % 2 == 0 || n % 3 == 0 ? NONE : 0);
        }
        x.wipe();
        due("none", x.where(0), NOT);
        due("none", x.parted(0), NOT);
    }

    private static void held() {
        BodyCorners x = one(3, 0, 0, 0, 9, 0, 0, 0, 9, 0, 0, 0, 9);
        int out = make(x, 3, 0, 0, 0, 3, 3, 3, 3, 3, 4, 1, 1, 8, 0, 0, -1, 9, 0, 0);
        due("CORNERS of it", x.about(out, 1), 6);
        due("on it, but not beyond", x.holds(0, out), 3);
        due("the other way", x.holds(out, 0), 2);
    }

    private static void pieces() {
        BodyCorners x = with("corner 2; corner 3; corner 4; cube 2; cross 3; round 2 of 16;");
        for (int i = 0; i < 3; i++) {
            due("one alone", x.about(i, 6), 1);
            due("all CORNERS", x.piece(i, 0, 0), (1 << i + 3) - 1);
            due("its SIZE", x.piece(i, 0, 1), 1);
            due("SIZE", x.size(i), 1);
        }
        due("a square", x.about(3, 6), 2);
        due("first", x.piece(3, 0, 0), 11);
        due("second", x.piece(3, 1, 0), 13);
        // facets of a cross without CORNER 0: 22 26 38 42
        int[] cross = {23, 27, 39, 43};
        for (int j = 0; j < cross.length; j++) {
            due("of a cross " + j, x.piece(4, j, 0), cross[j]);
            due("its SIZE " + j, x.piece(4, j, 1), 2);
        }
        due("14 of 16 sides", x.about(5, 6), 14);
        due("the last", x.piece(5, 13, 0), 1 | 1 << 14 | 1 << 15);
        due("none behind", x.piece(5, 14, 0), NONE);
        due("its SIZE", x.piece(5, 13, 1), 14 * 15);
        int pile = x.raise(3, 1, 5);
        due("a pyramid on four", x.about(pile, 6), 2);
        due("cut from CORNER 0", x.piece(pile, 0, 0), 27);
        due("cut from CORNER 0", x.piece(pile, 1, 0), 29);
        int prism = x.raise(0, 0, 2);
        due("a prism on three", x.about(prism, 6), 3);
        prismPieces(x, prism);
    }

    /** FACETS without CORNER 0 of a prism on three: 54 (CORNERS 1, 2, 4, 5), 56 (3, 4, 5). */
    private static void prismPieces(BodyCorners x, int prism) {
        due("four CORNERS of a FACET", x.face(prism, 2, 3), 54);
        due("the last FACET", x.face(prism, 2, 4), 56);
        int[] want = {39, 51, 57};
        for (int j = 0; j < 3; j++) {
            due("prism piece " + j, x.piece(prism, j, 0), want[j]);
            due("its SIZE", x.piece(prism, j, 1), 2);
        }
    }

    private static void sizes() {
        due("the least", one(2, 0, 0, 1, 0, 0, 1).size(0), 1);
        due("a long thin one", one(2, -999, -999, 999, 998, 999, 999).size(0), 1998);
        due("the greatest of 2", one(2, -999, -999, 999, -999, -999, 999, 999, 999).size(0), 2L * 1998 * 1998);
        BodyCorners x = one(4, -999, -999, -999, -999, 999, -999, -999, -999, -999, 999, -999, -999,
                -999, -999, 999, -999, -999, -999, -999, 999);
        due("the greatest corner of 4", x.size(0), 1998L * 1998 * 1998 * 1998);
        due("beyond an int", x.piece(0, 0, 1), 1998L * 1998 * 1998 * 1998);
        BodyCorners y = one(3, 0, 0, 0, 2, 0, 0, 0, 3, 0, 0, 0, 5);
        due("told one way round", y.size(0), 30);
        due("told the other", one(3, 0, 0, 0, 0, 3, 0, 2, 0, 0, 0, 0, 5).size(0), 30);
    }

    private static void wholes() {
        BodyCorners x = one(2, 0, 0, 6, 0, 0, 6);
        for (int s = 1; s <= 4; s++) {
            due("in it, " + s, x.whole(0, s, 0), (6 * s + 1) * (6 * s + 2) / 2);
            due("INSIDE, " + s, x.whole(0, s, 1), (6 * s - 2) * (6 * s - 1) / 2);
        }
        BodyCorners y = one(2, 0, 0, 1, 0, 0, 1);
        int[] inner = {0, 0, 1, 3};
        for (int s = 1; s <= 4; s++) {
            due("a small one, " + s, y.whole(0, s, 1), inner[s - 1]);
        }
        BodyCorners z = one(2, -3, -3, -2, -3, -3, -1);
        due("below 0", z.whole(0, 1, 0), 4);
        due("below 0, twice", z.whole(0, 2, 0), 9);
        due("below 0, twice, INSIDE", z.whole(0, 2, 1), 1);
        BodyCorners w = with("cube 2; cube 3; cube 4; corner 4;");
        for (int s = 1; s <= 4; s++) {
            int side = 1;
            int core = 1;
            for (int d = 1; d <= 4; d++) {
                side *= s + 1;
                core *= s - 1;
                if (d > 1) {
                    due("cube of " + d + " by " + s, w.whole(d - 2, s, 0), side);
                    due("its INSIDE", w.whole(d - 2, s, 1), core);
                }
            }
            due("a corner of 4 by " + s, w.whole(3, s, 0), (s + 4) * (s + 3) * (s + 2) * (s + 1) / 24);
            due("its INSIDE", w.whole(3, s, 1), 0);
        }
        BodyCorners thin = one(2, -999, -1, 999, 0, 998, 0);
        due("a thin one", thin.whole(0, 1, 0), 3);
        due("a thin one, INSIDE", thin.whole(0, 1, 1), 0);
        BodyCorners tall = one(2, 0, 0, 4, 0, 0, 999, 4, 999);
        due("5 times 1000", tall.whole(0, 1, 0), 5000);
        due("17 times 3997 are too many", tall.whole(0, 4, 0), BodyCorners.LARGE);
        due("9 times 1999", tall.whole(0, 2, 0), 9 * 1999);
        due("13 times 2998 are too many", tall.whole(0, 3, 0), BodyCorners.LARGE);
    }

    /** Boxes of just 20000 places and of more, long on each axis. */
    private static void boxes() {
        int[][] ends = {{1, 1, 4, 999}, {999, 1, 1, 4}, {4, 999, 1, 1}, {1, 4, 999, 1}};
        for (int[] e : ends) {
            due("20000 places", corner(e).whole(0, 1, 0), inCorner(e));
            for (int axis = 0; axis < 4; axis++) {
                int[] more = e.clone();
                more[axis] += more[axis] == 999 ? 0 : 1;
                due("more places, axis " + axis, corner(more).whole(0, 1, 0),
                        more[axis] == 999 ? inCorner(e) : BodyCorners.LARGE);
            }
        }
        int[] square = {9, 19, 9, 9};
        due("10 times 20 times 10 times 10", corner(square).whole(0, 1, 0), inCorner(square));
        square[2] = 10;
        due("10 times 20 times 11 times 10", corner(square).whole(0, 1, 0), BodyCorners.LARGE);
    }

    private static BodyCorners corner(int[] ends) {
        int[] numbers = new int[20];
        for (int axis = 0; axis < 4; axis++) {
            numbers[4 * (axis + 1) + axis] = ends[axis];
        }
        return one(4, numbers);
    }

    /** Places whose shares of the four ends are together 1 at most, looked for one by one. */
    private static int inCorner(int[] e) {
        int found = 0;
        long whole = (long) e[0] * e[1] * e[2] * e[3];
        for (int x = 0; x <= e[0]; x++) {
            for (int y = 0; y <= e[1]; y++) {
                for (int z = 0; z <= e[2]; z++) {
                    for (int w = 0; w <= e[3]; w++) {
                        long shares = x * (whole / e[0]) + y * (whole / e[1]) + z * (whole / e[2]) + w * (whole / e[3]);
                        found += shares <= whole ? 1 : 0;
                    }
                }
            }
        }
        return found;
    }

    public static void main(String[] args) {
        pointsThatAreNoCorners();
        sixteenPoints();
        firstCoordinates();
        coordinatesPastD();
        cellsByTheirSets();
        simpleAndEach();
        hCounts();
        lying();
        cuts();
        slices();
        shadows();
        raises();
        productsAndBoths();
        neverChange();
        scaleOne();
        sames();
        notAsMany();
        insides();
        laws();
        twistedInFour();
        madeOnes();
        rows();
        walks();
        tilts();
        upOfLikeOnes();
        heightsLikeRefusals();
        walksUp();
        rings();
        wheres();
        lastPoints();
        held();
        pieces();
        sizes();
        wholes();
        boxes();
        System.out.println(passed + " passed, " + failed + " failed");
        if (failed != 0) {
            System.exit(1);
        }
    }
}

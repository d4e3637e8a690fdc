import java.nio.charset.StandardCharsets;

/** Each promise of the document: ordinary inputs, the edges that it names, and wrong inputs. */
public final class BodyCornersTest {
    private static final int NONE = BodyCorners.NONE;
    private static final int UNKNOWN = BodyCorners.UNKNOWN;
    private static final int OUTSIDE = BodyCorners.OUTSIDE;
    private static final int NOT = BodyCorners.NOT;
    private static final int FULL = BodyCorners.FULL;
    private static final int LARGE = BodyCorners.LARGE;

    private static int passed = 0;
    private static int failed = 0;
    private static int promise = 0;

    private static void due(String what, long got, long want) {
        if (got == want) {
            passed++;
        } else {
            failed++;
            System.out.println("promise " + promise + ": " + what + " answered " + got + ", due is " + want);
        }
    }

    /** Feeds the text, eight bytes at a time. */
    private static void feedAll(BodyCorners x, String text) {
        byte[] bytes = text.getBytes(StandardCharsets.ISO_8859_1);
        for (int at = 0; at < bytes.length; at += 8) {
            int n = Math.min(8, bytes.length - at);
            long packed = 0;
            for (int k = 0; k < n; k++) {
                packed = packed << 8 | bytes[at + k] & 255;
            }
            x.feed(n, packed);
        }
    }

    private static int readAll(BodyCorners x, String text) {
        feedAll(x, text);
        return x.read();
    }

    private static BodyCorners with(String text) {
        BodyCorners x = new BodyCorners();
        int done = readAll(x, text);
        if (done < 0) {
            throw new IllegalStateException("a text of the test itself has a fault: " + text);
        }
        return x;
    }

    /** A BODY of POINTS with d numbers each. */
    private static int make(BodyCorners x, int d, int... numbers) {
        x.wipe();
        for (int at = 0; at + d <= numbers.length; at += d) {
            x.point(numbers[at], numbers[at + 1], d > 2 ? numbers[at + 2] : 0, d > 3 ? numbers[at + 3] : 0);
        }
        return x.body(d);
    }

    private static void dueCorner(BodyCorners x, int i, int c, int... place) {
        for (int k = 0; k < place.length; k++) {
            due("corner(" + i + ", " + c + ", " + k + ")", x.corner(i, c, k), place[k]);
        }
    }

    /** An object with all 24 BODIES: triangles, but for those that the text tells first. */
    private static BodyCorners fullOf(String text) {
        BodyCorners x = with(text);
        while (x.count(0) < 24) {
            readAll(x, "corner 2;");
        }
        return x;
    }

    private static void newObject() {
        BodyCorners x = new BodyCorners();
        for (int what = 0; what <= 6; what++) {
            due("count(" + what + ")", x.count(what), 0);
        }
        due("about", x.about(0, 0), UNKNOWN);
        due("claim", x.claim(0), UNKNOWN);
        due("fault", x.fault(), NONE);
        due("clear", x.clear(), 0);
        due("wipe", x.wipe(), 0);
        due("a set of corner 3", x.set(8), OUTSIDE);
        due("a set of three corners", x.set(7), 1);
        BodyCorners other = new BodyCorners();
        x.point(1, 2, 3, 4);
        due("another object's draft", other.count(1), 0);
    }

    private static void points() {
        BodyCorners x = new BodyCorners();
        due("least", x.point(-999, -999, -999, -999), 1);
        due("greatest", x.point(999, 999, 999, 999), 2);
        due("x", x.point(1000, 0, 0, 0), OUTSIDE);
        due("y", x.point(0, -1000, 0, 0), OUTSIDE);
        due("z", x.point(0, 0, 1000, 0), OUTSIDE);
        due("w", x.point(0, 0, 0, -1000), OUTSIDE);
        due("least number", x.point(0, Integer.MIN_VALUE, 0, 0), OUTSIDE);
        due("none more", x.count(1), 2);
        for (int n = 3; n <= 16; n++) {
            due("alike points count", x.point(0, 0, 0, 0), n);
        }
        due("a 17th", x.point(0, 0, 0, 0), FULL);
        due("OUTSIDE comes first", x.point(0, 0, 0, 1000), OUTSIDE);
        due("still 16", x.count(1), 16);
    }

    private static void wiping() {
        BodyCorners x = new BodyCorners();
        x.point(1, 1, 1, 1);
        x.point(2, 1, 1, 1);
        due("two", x.wipe(), 2);
        due("none", x.count(1), 0);
        due("again", x.wipe(), 0);
        due("the next is the first", x.point(5, 5, 5, 5), 1);
    }

    private static void bodies() {
        BodyCorners x = new BodyCorners();
        due("D 1", x.body(1), OUTSIDE);
        due("D 5", x.body(5), OUTSIDE);
        due("no points", x.body(2), NOT);
        x.point(0, 0, 7, 1);
        x.point(2, 0, 8, 2);
        x.point(4, 0, 9, 3);
        due("on a line", x.body(2), NOT);
        due("the draft stays", x.count(1), 3);
        x.point(2, 0, -5, 4);
        x.point(2, 4, -5, 4);
        x.point(0, 0, 3, 4);
        x.point(2, 1, 0, 0);
        due("a triangle", x.body(2), 0);
        due("the draft is empty", x.count(1), 0);
        due("corners alone, like ones once", x.about(0, 1), 3);
        dueCorner(x, 0, 0, 0, 0);
        dueCorner(x, 0, 1, 4, 0);
        dueCorner(x, 0, 2, 2, 4);
        due("flat in 3", make(x, 3, 0, 0, 1, 1, 0, 1, 0, 1, 1, 5, 5, 1), NOT);
        due("in 3", make(x, 3, 0, 0, 1, 1, 0, 1, 0, 1, 1, 5, 5, 2), 1);
        due("flat in 4", make(x, 4, 0, 0, 0, 0, 1, 0, 0, 0, 0, 1, 0, 0, 0, 0, 1, 0, 1, 1, 1, 0), NOT);
        due("in 4", make(x, 4, 0, 0, 0, 0, 1, 0, 0, 0, 0, 1, 0, 0, 0, 0, 1, 0, 1, 1, 1, -1), 2);
        BodyCorners full = fullOf("");
        full.point(0, 0, 0, 0);
        full.point(9, 0, 0, 0);
        due("OUTSIDE comes first", full.body(0), OUTSIDE);
        due("NOT comes before FULL", full.body(2), NOT);
        full.point(0, 9, 0, 0);
        due("FULL", full.body(2), FULL);
        due("the draft stays there, too", full.count(1), 3);
        due("24 bodies", full.count(0), 24);
    }

    private static void cuts() {
        BodyCorners x = with("cube 3; cube 4; cube 2;");
        due("no body", x.cut(3, 10, 0, 0, 0, 0), UNKNOWN);
        due("no body below", x.cut(-1, 1, 0, 0, 0, 0), UNKNOWN);
        due("a0", x.cut(0, 10, 0, 0, 0, 0), OUTSIDE);
        due("a2", x.cut(0, 0, 0, -10, 0, 0), OUTSIDE);
        due("all 0", x.cut(0, 0, 0, 0, 7, 0), OUTSIDE);
        due("b", x.cut(0, 1, 0, 0, 0, 10000), OUTSIDE);
        due("b below", x.cut(0, 1, 0, 0, 0, -10000), OUTSIDE);
        due("OUTSIDE comes before NOT", x.cut(0, 1, 0, 0, 0, -10000), OUTSIDE);
        due("nothing", x.cut(0, 1, 0, 0, 0, -1), NOT);
        due("a facet alone", x.cut(0, 1, 0, 0, 0, 0), NOT);
        due("a3 is not looked at in 3", x.cut(0, 1, 0, 0, 1000, 9999), 3);
        due("all of it", x.same(0, 3), 1);
        due("its SCALE", x.about(3, 2), 1);
        due("a corner off", x.cut(0, 2, 2, 2, 0, 5), 4);
        due("SCALE 2", x.about(4, 2), 2);
        due("seven and three", x.about(4, 1), 10);
        dueCorner(x, 4, 1, 2, 0, 0);
        dueCorner(x, 4, 7, 2, 2, 1);
        dueCorner(x, 4, 8, 2, 1, 2);
        dueCorner(x, 4, 9, 1, 2, 2);
        due("size", x.size(4), 6 * 8 - 1);
        due("more than 16 points", x.cut(1, 2, 2, 2, 2, 7), FULL);
        due("NOT comes before FULL", x.cut(1, 1, 1, 1, 1, 0), NOT);
        due("half of a square", x.cut(2, 1, 1, 99, 99, 1), 5);
        dueCorner(x, 5, 0, 0, 0);
        dueCorner(x, 5, 1, 1, 0);
        dueCorner(x, 5, 2, 0, 1);
        int wide = make(x, 2, 0, 0, 999, 0, 0, 998);
        due("LARGE", x.cut(wide, 2, 0, 0, 0, 3), LARGE);
        due("a cut of a cut has its own SCALE", x.about(x.cut(4, 1, 0, 0, 0, 1), 2), 1);
        int primes = make(x, 2, 0, 0, 997, 1, 991, 2, 983, 4, 977, 7, 900, 90);
        due("SCALES that run away", x.cut(primes, 9, 1, 0, 0, 7000), LARGE);
        int through = x.cut(1, 1, 1, 1, 1, 2);
        due("an edge that ends on it is not cut", x.about(through, 1), 11);
        due("whole already", x.about(through, 2), 1);
        int[][] wides = {{999, 0, 0, 0}, {0, 999, 0, 0}, {0, 0, 999, 0}, {0, 0, 0, -999}};
        for (int k = 0; k < 4; k++) {
            int[] a = {0, 0, 0, 0};
            a[(k + 1) % 4] = 2;
            int[] w = wides[k];
            int slim = make(x, 4, 0, 0, 0, 0, k == 0 ? w[0] : 1, 0, 0, 0, 0, k == 1 ? w[1] : 1, 0, 0,
                    0, 0, k == 2 ? w[2] : 1, 0, 0, 0, 0, k == 3 ? w[3] : 1);
            due("LARGE by coordinate " + k + " alone", x.cut(slim, a[0], a[1], a[2], a[3], 1), LARGE);
        }
        BodyCorners bow = with("round 2 of 16;");
        due("16 points", bow.cut(0, 1, 0, 0, 0, 14), 1);
        due("of them 16 corners", bow.about(1, 1), 16);
        due("17 points", bow.cut(0, 2, 0, 0, 0, 29), FULL);
        BodyCorners full = fullOf("cube 2;");
        due("FULL comes before LARGE", fullAndWide().cut(23, 0, 2, 0, 0, 1), FULL);
        due("FULL", full.cut(0, 1, 1, 0, 0, 1), FULL);
        due("NOT first", full.cut(0, 1, 1, 0, 0, 0), NOT);
    }

    /** All 24 BODIES, the last one so wide that a CUT or a DOUBLE of it is LARGE. */
    private static BodyCorners fullAndWide() {
        BodyCorners x = new BodyCorners();
        while (x.count(0) < 23) {
            readAll(x, "corner 2;");
        }
        make(x, 2, 0, 0, 999, 0, 0, 1);
        return x;
    }

    private static void slices() {
        BodyCorners x = with("cube 3; cube 2; corner 4; cross 3;");
        due("no body", x.slice(4, 0, 0), UNKNOWN);
        due("k below", x.slice(0, -1, 0), OUTSIDE);
        due("k above", x.slice(0, 3, 0), OUTSIDE);
        due("c", x.slice(0, 0, 1000), OUTSIDE);
        due("c below", x.slice(0, 0, -1000), OUTSIDE);
        due("D 2", x.slice(1, 0, 0), OUTSIDE);
        due("beyond", x.slice(0, 0, 2), NOT);
        due("a corner alone", x.slice(3, 0, 1), NOT);
        due("a facet", x.slice(0, 1, 1), 4);
        due("of 2", x.about(4, 0), 2);
        dueCorner(x, 4, 0, 0, 0);
        dueCorner(x, 4, 1, 1, 0);
        dueCorner(x, 4, 2, 0, 1);
        due("the middle of a cross", x.slice(3, 1, 0), 5);
        due("four corners", x.about(5, 1), 4);
        dueCorner(x, 5, 2, 0, 1);
        int tall = make(x, 3, 0, 0, 0, 6, 0, 0, 0, 6, 0, 0, 0, 4, 1, 0, 4);
        due("between", x.slice(tall, 2, 1), 7);
        due("its SCALE", x.about(7, 2), 4);
        due("size of it", x.size(7), 360);
        dueCorner(x, 7, 0, 0, 0);
        dueCorner(x, 7, 1, 0, 18);
        dueCorner(x, 7, 2, 19, 0);
        dueCorner(x, 7, 3, 1, 18);
        int slim = make(x, 3, 0, 0, 0, 999, 0, 0, 0, 999, 0, 0, 0, 7);
        due("LARGE", x.slice(slim, 2, 1), LARGE);
        int needle = make(x, 3, 0, 0, 0, 1, 0, 900, 0, 1, 899, 0, 0, 500);
        int tip = x.slice(needle, 2, 1);
        due("a great SCALE", x.about(tip, 2), 809100);
        dueCorner(x, tip, 0, 899, 0);
        dueCorner(x, tip, 1, 0, 900);
        dueCorner(x, tip, 2, 0, 0);
        BodyCorners full = fullOf("cube 3;");
        due("NOT comes before FULL", full.slice(0, 0, 5), NOT);
        due("FULL", full.slice(0, 0, 1), FULL);
    }

    private static void shadows() {
        BodyCorners x = with("cube 3; cube 2; cross 4;");
        due("no body", x.shadow(3, 9), UNKNOWN);
        due("k", x.shadow(0, 3), OUTSIDE);
        due("k below", x.shadow(0, -1), OUTSIDE);
        due("D 2", x.shadow(1, 0), OUTSIDE);
        due("of a cube", x.shadow(0, 0), 3);
        due("a square", x.same(3, 1), 1);
        dueCorner(x, 3, 1, 1, 0);
        due("of a cross", x.shadow(2, 1), 4);
        due("the middle is no corner", x.about(4, 1), 6);
        dueCorner(x, 4, 2, 0, 1, 0);
        dueCorner(x, 4, 5, 0, 0, -1);
        readAll(x, "round 4 of 6;");
        int[][] left = {{9, 27, 81}, {3, 27, 81}, {3, 9, 81}, {3, 9, 27}};
        for (int k = 0; k < 4; k++) {
            int of = x.shadow(5, k);
            due("without " + k, x.about(of, 1), 6);
            dueCorner(x, of, 3, left[k]);
        }
        due("SCALE of a shadow", x.about(3, 2), 1);
        int part = x.cut(0, 2, 0, 0, 0, 1);
        due("SCALE of its cut", x.about(part, 2), 2);
        due("SCALE of a shadow of that", x.about(x.shadow(part, 2), 2), 1);
        due("FULL", fullOf("cube 3;").shadow(0, 0), FULL);
        due("OUTSIDE comes before FULL", fullOf("cube 3;").shadow(0, 3), OUTSIDE);
    }

    private static void raises() {
        BodyCorners x = with("cube 2; corner 4; round 2 of 9; round 2 of 15; cube 3;");
        due("no body", x.raise(5, 9, 0), UNKNOWN);
        due("kind", x.raise(0, 3, 1), OUTSIDE);
        due("kind below", x.raise(0, -1, 1), OUTSIDE);
        due("h 0", x.raise(0, 0, 0), OUTSIDE);
        due("h 100", x.raise(0, 0, 100), OUTSIDE);
        due("D 4", x.raise(1, 0, 1), OUTSIDE);
        due("18 points", x.raise(2, 0, 1), FULL);
        due("17 points", x.raise(3, 2, 1), FULL);
        due("PRISM", x.raise(0, 0, 99), 5);
        due("like a cube", x.same(5, 4), 1);
        dueCorner(x, 5, 7, 1, 1, 99);
        dueCorner(x, 5, 3, 1, 1, 0);
        due("PYRAMID", x.raise(0, 1, 2), 6);
        due("five corners", x.about(6, 1), 5);
        dueCorner(x, 6, 4, 0, 0, 2);
        due("16 corners", x.about(x.raise(3, 1, 2), 1), 16);
        due("DOUBLE", x.raise(0, 2, 3), 8);
        dueCorner(x, 8, 3, 4, 4, 0);
        dueCorner(x, 8, 4, 2, 2, 3);
        dueCorner(x, 8, 5, 2, 2, -3);
        due("eight facets", x.faces(8, 2), 8);
        due("SCALE of a DOUBLE", x.about(8, 2), 1);
        due("of 3", x.raise(4, 0, 1), 9);
        due("16 corners of 4", x.about(9, 1), 16);
        int wide = make(x, 2, 0, 0, 333, 0, 0, 333);
        due("999", x.raise(wide, 2, 1), 11);
        int wider = make(x, 2, 0, 0, 334, 0, 0, -333);
        due("1002", x.raise(wider, 2, 1), LARGE);
        due("no bound for a PRISM", x.raise(wider, 0, 1), 13);
        due("FULL", fullOf("cube 2;").raise(0, 1, 1), FULL);
        due("FULL comes before LARGE", fullAndWide().raise(23, 2, 1), FULL);
        due("OUTSIDE comes before FULL", fullOf("cube 2;").raise(0, 1, 0), OUTSIDE);
    }

    private static void products() {
        BodyCorners x = with("corner 2; cube 2; cube 3; round 2 of 6; cube 4;");
        due("no first", x.product(5, 2), UNKNOWN);
        due("no second", x.product(2, -1), UNKNOWN);
        due("D 3", x.product(0, 2), OUTSIDE);
        due("D 3 first", x.product(2, 0), OUTSIDE);
        due("18 points", x.product(0, 3), FULL);
        due("made", x.product(0, 1), 5);
        due("of 4", x.about(5, 0), 4);
        due("12 corners", x.about(5, 1), 12);
        dueCorner(x, 5, 5, 1, 0, 1, 0);
        dueCorner(x, 5, 11, 0, 1, 1, 1);
        due("two squares", x.product(1, 1), 6);
        due("like a cube of 4", x.same(6, 4), 1);
        due("SCALE of a product", x.about(6, 2), 1);
        BodyCorners full = fullOf("cube 2; cube 3;");
        due("FULL", full.product(0, 0), FULL);
        due("OUTSIDE comes before FULL", full.product(0, 1), OUTSIDE);
    }

    private static void boths() {
        BodyCorners x = with("cube 3; cross 3; cube 2; cube 4; cross 4; corner 3;");
        due("no body", x.both(0, 6), UNKNOWN);
        due("no body first", x.both(-1, 2), UNKNOWN);
        due("unlike D", x.both(0, 2), OUTSIDE);
        due("too many points", x.both(3, 4), FULL);
        due("made", x.both(0, 1), 6);
        due("of those told only the corners", x.about(6, 1), 10);
        dueCorner(x, 6, 0, 1, 0, 0);
        dueCorner(x, 6, 4, 1, 0, 1);
        dueCorner(x, 6, 7, -1, 0, 0);
        due("with itself", x.both(0, 0), 7);
        due("SCALE of both", x.about(7, 2), 1);
        due("alike ones once", x.about(7, 1), 8);
        due("16 alike ones are not too many", x.both(3, 3), 8);
        due("inner ones fall away", x.about(x.both(5, 0), 1), 8);
        due("FULL", fullOf("cube 3;").both(0, 0), FULL);
        due("OUTSIDE comes before FULL", fullOf("cube 3;").both(0, 1), OUTSIDE);
    }

    private static void abouts() {
        BodyCorners x = with("cube 4; round 2 of 5; cross 4; round 4 of 6;");
        due("no body", x.about(4, 9), UNKNOWN);
        due("what below", x.about(0, -1), OUTSIDE);
        due("what above", x.about(0, 7), OUTSIDE);
        int[][] want = {{4, 16, 1, 0, 1, 384}, {2, 5, 1, 1, 1, 10}, {4, 8, 1, 1, 0, 384}, {4, 6, 1, 1, 0, 72}};
        for (int i = 0; i < want.length; i++) {
            for (int what = 0; what < 6; what++) {
                due("about(" + i + ", " + what + ")", x.about(i, what), want[i][what]);
            }
        }
        due("PIECES of a pentagon", x.about(1, 6), 3);
        due("PIECES of a cube of 4", x.about(0, 6), 24);
        due("PIECES of a cross of 4", x.about(2, 6), 8);
        due("TURNS again", x.about(0, 5), 384);
        int lone = make(x, 3, 0, 5, 0, 4, -1, 2, -5, 4, -5, 5, -5, 0, -1, 5, 2, -1, 4, 4, 0, -3, 0, -3, 0, 0);
        due("no turn but to stay", x.about(lone, 5), 1);
        int drum = make(x, 3, 0, 0, 0, 9, 0, 0, 9, 9, 0, 0, 9, 0, 3, 3, 9, 2, 6, -4, 8, 1, -3);
        due("a double pyramid on five sides", x.about(drum, 5), 20);
    }

    private static void cornersOf() {
        BodyCorners x = with("corner 3; cross 2;");
        due("no body", x.corner(2, 0, 0), UNKNOWN);
        due("no corner", x.corner(0, 4, 0), UNKNOWN);
        due("no corner below", x.corner(0, -1, 9), UNKNOWN);
        due("k", x.corner(0, 0, 3), OUTSIDE);
        due("k below", x.corner(0, 0, -1), OUTSIDE);
        dueCorner(x, 0, 0, 0, 0, 0);
        dueCorner(x, 0, 3, 0, 0, 1);
        dueCorner(x, 1, 1, -1, 0);
        dueCorner(x, 1, 3, 0, -1);
    }

    private static void counts() {
        BodyCorners x = with("cube 3; corner 2; claim all faces 0 > 2;");
        x.point(0, 0, 0, 0);
        x.pattern(5);
        x.set(3);
        x.set(6);
        x.set(5);
        x.row(7);
        x.row(9);
        x.row(8);
        x.row(0);
        x.feed(5, 0);
        int[] want = {2, 1, 1, 3, 4, 5, 11};
        for (int what = 0; what < want.length; what++) {
            due("count(" + what + ")", x.count(what), want[what]);
        }
        due("below", x.count(-1), OUTSIDE);
        due("above", x.count(7), OUTSIDE);
    }

    private static void faceCounts() {
        BodyCorners x = with("cube 4; round 4 of 6; cross 2; cross 4; corner 3;");
        due("no body", x.faces(5, 9), UNKNOWN);
        due("K below", x.faces(0, -1), OUTSIDE);
        due("K above", x.faces(0, 4), OUTSIDE);
        int[][] want = {{16, 32, 24, 8}, {6, 15, 18, 9}, {4, 4, 0, 0}, {8, 24, 32, 16}, {4, 6, 4, 0}};
        for (int i = 0; i < want.length; i++) {
            for (int k = 0; k < 4; k++) {
                due("faces(" + i + ", " + k + ")", x.faces(i, k), want[i][k]);
            }
        }
    }

    private static void faceSets() {
        BodyCorners x = with("cube 3; cross 2; cube 4;");
        due("no body", x.face(3, 9, 0), UNKNOWN);
        due("K", x.face(0, 3, 0), OUTSIDE);
        due("K below", x.face(0, -1, 99), OUTSIDE);
        due("no cell", x.face(0, 1, 12), UNKNOWN);
        due("no cell below", x.face(0, 1, -1), UNKNOWN);
        int[] facets = {15, 51, 85, 170, 204, 240};
        for (int j = 0; j < facets.length; j++) {
            due("facet " + j, x.face(0, 2, j), facets[j]);
        }
        int[] edges = {3, 5, 10, 12, 17, 34, 48, 68, 80, 136, 160, 192};
        for (int j = 0; j < edges.length; j++) {
            due("edge " + j, x.face(0, 1, j), edges[j]);
        }
        due("corner 5", x.face(0, 0, 5), 32);
        int[] sides = {5, 6, 9, 10};
        for (int j = 0; j < sides.length; j++) {
            due("side " + j, x.face(1, 1, j), sides[j]);
        }
        due("the first ridge of a cube of 4", x.face(2, 2, 0), 15);
        due("its last", x.face(2, 2, 23), 61440);
        due("its last facet", x.face(2, 3, 7), 65280);
    }

    private static void lying() {
        BodyCorners x = with("cube 4; cross 3;");
        due("no body", x.lies(2, 0, 0, 0), UNKNOWN);
        due("K", x.lies(1, 3, 0, 0), OUTSIDE);
        due("L", x.lies(1, 0, 99, 3), OUTSIDE);
        due("L below", x.lies(1, 0, 0, -1), OUTSIDE);
        due("no cell", x.lies(1, 0, 6, 0), UNKNOWN);
        due("no cell below", x.lies(1, 0, -1, 0), UNKNOWN);
        int[][] want = {{1, 4, 6, 4}, {2, 1, 3, 3}, {4, 4, 1, 2}, {8, 12, 6, 1}};
        for (int k = 0; k < 4; k++) {
            for (int l = 0; l < 4; l++) {
                due("lies(0, " + k + ", 3, " + l + ")", x.lies(0, k, 3, l), want[k][l]);
            }
        }
        due("facets at a corner", x.lies(1, 0, 2, 2), 4);
        due("edges in a facet", x.lies(1, 2, 7, 1), 3);
    }

    private static void hCounts() {
        BodyCorners x = with("round 4 of 6; cube 3; round 2 of 7; cross 4; corner 3;");
        due("no body", x.h(5, 9), UNKNOWN);
        due("k above", x.h(0, 5), OUTSIDE);
        due("k below", x.h(0, -1), OUTSIDE);
        due("not SIMPLE-FACED", x.h(1, 0), NOT);
        due("OUTSIDE comes first", x.h(1, 4), OUTSIDE);
        int[][] want = {{1, 2, 3, 2, 1}, {}, {1, 5, 1}, {1, 4, 6, 4, 1}, {1, 1, 1, 1}};
        for (int i = 0; i < want.length; i++) {
            for (int k = 0; k < want[i].length; k++) {
                due("h(" + i + ", " + k + ")", x.h(i, k), want[i][k]);
            }
        }
    }

    private static void sums() {
        BodyCorners x = with("cube 2; cube 3; cube 4; round 3 of 10;");
        due("no body", x.sum(4), UNKNOWN);
        due("no body below", x.sum(-1), UNKNOWN);
        due("of 2", x.sum(0), 0);
        due("of 3", x.sum(1), 2);
        due("of 4", x.sum(2), 0);
        due("of 3 again", x.sum(3), 2);
    }

    private static void sames() {
        BodyCorners x = with("cube 3; cross 3; cube 2; round 3 of 6; round 2 of 4;");
        due("no body", x.same(0, 5), UNKNOWN);
        due("no body first", x.same(-1, 0), UNKNOWN);
        due("itself", x.same(0, 0), 1);
        due("unlike D", x.same(0, 2), 0);
        due("unlike counts", x.same(0, 1), 0);
        due("as many facets but another pattern", x.same(1, 3), 0);
        due("both ways", x.same(3, 1), 0);
        due("squares", x.same(2, 4), 1);
        int skew = make(x, 3, 9, 1, 1, 0, 0, -7, 0, 0, 8, -9, 0, 0, 0, -8, 1, 1, 7, 0);
        due("a skew cross", x.same(1, skew), 1);
        due("and back", x.same(skew, 1), 1);
    }

    private static void insideOuts() {
        BodyCorners x = with("cube 4; cross 4; corner 3; cube 3; round 2 of 7; cube 2; round 3 of 6; cross 3;");
        due("no body", x.inside(0, 8), UNKNOWN);
        due("no body first", x.inside(9, 0), UNKNOWN);
        due("cube and cross", x.inside(0, 1), 1);
        due("cross and cube", x.inside(1, 0), 1);
        due("itself", x.inside(2, 2), 1);
        due("no cube", x.inside(3, 3), 0);
        due("unlike D", x.inside(3, 1), 0);
        due("a polygon", x.inside(4, 4), 1);
        due("another polygon", x.inside(4, 5), 0);
        due("as many, but not so", x.inside(6, 3), 0);
        due("as many, and so", x.inside(7, 3), 1);
        int roof = x.raise(5, 1, 1);
        due("a pyramid on a square is its own", x.inside(roof, roof), 1);
    }

    private static void patterns() {
        BodyCorners x = new BodyCorners();
        due("2", x.pattern(2), OUTSIDE);
        due("13", x.pattern(13), OUTSIDE);
        due("3", x.pattern(3), 1);
        due("12", x.pattern(12), 1);
        due("a set of its last corner", x.set(1 << 11), 1);
        due("refused", x.pattern(0), OUTSIDE);
        due("nothing changed", x.count(3), 1);
        due("anew", x.pattern(4), 1);
        due("no sets", x.count(3), 0);
        due("corner 4", x.set(16), OUTSIDE);
    }

    private static void sets() {
        BodyCorners x = new BodyCorners();
        due("3 corners at first", x.set(8), OUTSIDE);
        due("none", x.set(0), OUTSIDE);
        due("below 0", x.set(-1), OUTSIDE);
        due("least number", x.set(Integer.MIN_VALUE), OUTSIDE);
        due("first", x.set(5), 1);
        due("again", x.set(5), NOT);
        due("more corners", x.set(7), NOT);
        due("fewer corners", x.set(1), NOT);
        due("OUTSIDE comes before NOT", x.set(15), OUTSIDE);
        due("second", x.set(6), 2);
        x.pattern(8);
        int held = 0;
        for (int set = 1; set < 256 && held < 24; set++) {
            if (Integer.bitCount(set) == 2) {
                held++;
                due("set " + set, x.set(set), held);
            }
        }
        due("a 25th", x.set(192), FULL);
        due("NOT comes before FULL", x.set(3), NOT);
        due("NOT comes before FULL, too", x.set(7), NOT);
        due("24", x.count(3), 24);
    }

    private static void setAll(BodyCorners x, int corners, int... sets) {
        x.pattern(corners);
        for (int set : sets) {
            x.set(set);
        }
    }

    private static void places() {
        BodyCorners x = with("cube 2; corner 3;");
        due("no sets", x.place(3), NOT);
        due("OUTSIDE comes first", x.place(1), OUTSIDE);
        due("D 5", x.place(5), OUTSIDE);
        setAll(x, 5, 7, 11, 13, 14);
        due("another D", x.place(2), NOT);
        due("a corner in none", x.place(3), 1);
        setAll(x, 4, 7, 11, 13);
        due("a part in one", x.place(3), 2);
        setAll(x, 5, 7, 11, 13, 14, 19);
        due("a part in three", x.place(3), 2);
        setAll(x, 5, 3, 12, 20, 24);
        due("the first set alone is bare", x.place(2), 2);
        setAll(x, 5, 12, 20, 24, 3);
        due("the last set alone is bare", x.place(2), 2);
        setAll(x, 8, 7, 11, 13, 14, 112, 176, 208, 224);
        due("two pieces", x.place(3), 3);
        setAll(x, 7, 11, 13, 22, 26, 44, 52, 88, 104, 49, 81, 98, 35, 69, 70);
        due("a ring-like one", x.place(3), 4);
        setAll(x, 4, 7, 11, 13, 14);
        due("MADE", x.place(3), 101);
        setAll(x, 4, 3, 12, 10, 5);
        due("a square told crosswise", x.place(2), 100);
        setAll(x, 5, 3, 6, 12, 24, 17);
        due("OPEN", x.place(2), 0);
        readAll(x, "round 2 of 5; round 2 of 5;");
        due("MADE by the first", x.place(2), 102);
        setAll(x, 6, 3, 6, 5, 24, 48, 40);
        due("two triangles", x.place(2), 3);
        setAll(x, 5, 15, 23, 27, 29, 30);
        due("OPEN in 4", x.place(4), 0);
        readAll(x, "corner 4;");
        due("MADE in 4", x.place(4), 104);
        setAll(x, 4, 1, 2);
        due("sets of one corner", x.place(2), NOT);
    }

    private static void rows() {
        BodyCorners x = new BodyCorners();
        due("below", x.row(-1), OUTSIDE);
        due("above", x.row(200), OUTSIDE);
        due("last", x.row(199), 1);
        due("again", x.row(199), NOT);
        for (int n = 2; n <= 104; n++) {
            due("row", x.row(n), n);
        }
        due("a 105th", x.row(150), FULL);
        due("NOT comes before FULL", x.row(50), NOT);
        due("OUTSIDE comes before NOT", x.row(201), OUTSIDE);
        due("104", x.count(4), 104);
    }

    private static void clears() {
        BodyCorners x = new BodyCorners();
        x.row(3);
        x.row(4);
        due("two", x.clear(), 2);
        due("none", x.clear(), 0);
        due("anew", x.row(3), 1);
    }

    private static void meeting() {
        BodyCorners x = with("cross 3; cube 3; round 4 of 6; round 2 of 5;");
        due("no body", x.meets(4), UNKNOWN);
        due("an empty row", x.meets(0), NONE);
        due("not SIMPLE-FACED", x.meets(1), NOT);
        x.row(6);
        due("UNKNOWN comes before NOT", x.meets(1), UNKNOWN);
        due("of one", x.meets(0), NONE);
        x.row(1);
        due("joined by a corner", x.meets(0), 1);
        x.clear();
        for (int f = 0; f < 9; f++) {
            x.row(f);
        }
        due("all in 4", x.meets(2), NONE);
        due("a facet that it has not", x.meets(0), UNKNOWN);
        x.clear();
        // sides of the pentagon: 3, 6, 12, 17, 24
        x.row(0);
        x.row(1);
        x.row(4);
        due("a side apart", x.meets(3), 2);
        x.clear();
        x.row(0);
        x.row(1);
        x.row(2);
        x.row(4);
        x.row(3);
        due("round about", x.meets(3), NONE);
        x.clear();
        // octahedron's facets 21 22 25 26 37 38 41 42: 21 and 22 share an edge, 42 has one corner of 22 alone
        x.row(0);
        x.row(1);
        x.row(7);
        due("a corner in common, no edge", x.meets(0), 2);
    }

    private static void freshes() {
        BodyCorners x = with("cross 3; cube 3; round 4 of 6;");
        due("no body", x.fresh(3, 9), UNKNOWN);
        due("empty", x.fresh(0, 0), 0);
        due("k below", x.fresh(0, -1), OUTSIDE);
        due("k above", x.fresh(0, 5), OUTSIDE);
        due("OUTSIDE comes before NOT", x.fresh(1, 5), OUTSIDE);
        due("not SIMPLE-FACED", x.fresh(1, 0), NOT);
        for (int f = 0; f < 8; f++) {
            x.row(f);
        }
        due("UNKNOWN comes first", x.fresh(1, 5), UNKNOWN);
        int[] want = {1, 3, 3, 1, 0};
        for (int k = 0; k < want.length; k++) {
            due("fresh(0, " + k + ")", x.fresh(0, k), want[k]);
        }
        x.row(8);
        int[] wide = {1, 2, 3, 2, 1};
        for (int k = 0; k < wide.length; k++) {
            due("fresh(2, " + k + ")", x.fresh(2, k), wide[k]);
        }
        x.clear();
        x.row(0);
        x.row(7);
        due("apart: none new at both", x.fresh(0, 0), 2);
    }

    private static void walking() {
        BodyCorners x = with("cube 4; round 2 of 7; round 4 of 6;");
        due("no body", x.walk(3, 0, 0), UNKNOWN);
        due("no corner", x.walk(0, 16, 0), UNKNOWN);
        due("no second corner", x.walk(0, 0, -1), UNKNOWN);
        due("to itself", x.walk(0, 9, 9), 0);
        due("across", x.walk(0, 0, 15), 4);
        due("one axis", x.walk(0, 5, 13), 1);
        due("round about", x.walk(1, 0, 4), 3);
        due("the other way", x.walk(1, 1, 6), 2);
        due("each beside each", x.walk(2, 1, 4), 1);
    }

    private static void fars() {
        BodyCorners x = with("cube 4; round 2 of 7; round 4 of 6; cross 3;");
        due("no body", x.far(4), UNKNOWN);
        due("cube", x.far(0), 4);
        due("7 sides", x.far(1), 3);
        due("each beside each", x.far(2), 1);
        due("cross", x.far(3), 2);
    }

    private static void tilts() {
        BodyCorners x = with("cube 4;");
        due("level at first", x.up(0, 5, 2), 0);
        due("t0", x.tilt(100, 0, 0, 0), OUTSIDE);
        due("t1", x.tilt(0, -100, 0, 0), OUTSIDE);
        due("t2", x.tilt(0, 0, 100, 0), OUTSIDE);
        due("t3", x.tilt(0, 0, 0, -100), OUTSIDE);
        due("nothing changed", x.up(0, 5, 1), 0);
        due("bounds", x.tilt(99, -99, 99, -99), 1);
        due("up there", x.up(0, 0, 2), 198);
        due("where", x.up(0, 0, 0), 5);
    }

    private static void ascending() {
        BodyCorners x = with("cube 3; cross 3;");
        due("no body", x.up(2, 0, 9), UNKNOWN);
        due("no corner", x.up(0, 8, 9), UNKNOWN);
        due("what", x.up(0, 0, 3), OUTSIDE);
        due("what below", x.up(0, 0, -1), OUTSIDE);
        x.tilt(1, 1, 1, 50);
        due("of like ones the least", x.up(0, 0, 0), 7);
        due("three edges", x.up(0, 0, 1), 3);
        due("height", x.up(0, 0, 2), 3);
        x.tilt(0, 0, 1, 0);
        due("one edge", x.up(0, 1, 0), 5);
        due("by one", x.up(0, 1, 1), 1);
        due("there already", x.up(0, 6, 1), 0);
        due("straight to the top", x.up(1, 0, 0), 4);
        x.tilt(0, 0, 0, 9);
        due("beyond D it is level", x.up(0, 0, 1), 0);
        x.tilt(-1, -1, 0, 0);
        due("two of a height", x.up(1, 4, 0), 1);
        due("below 0", x.up(1, 0, 2), 1);
        int low = make(x, 2, 500, 501, 502, 501, 501, 502);
        due("a height like a refusal", x.up(low, 2, 2), -1001);
    }

    private static void countingUp() {
        BodyCorners x = with("cube 4; round 4 of 6; cross 3;");
        due("no body", x.ups(3, 0, 0), UNKNOWN);
        due("no corner", x.ups(0, 16, 0), UNKNOWN);
        due("no second corner", x.ups(0, 0, -1), UNKNOWN);
        due("level", x.ups(0, 0, 15), 0);
        due("level, to itself", x.ups(0, 3, 3), 1);
        x.tilt(1, 1, 1, 1);
        due("24 ways", x.ups(0, 0, 15), 24);
        due("two ways", x.ups(0, 1, 7), 2);
        due("not down", x.ups(0, 15, 0), 0);
        due("to itself", x.ups(0, 15, 15), 1);
        x.tilt(-1, -2, -4, -8);
        due("down by the numbers", x.ups(0, 15, 0), 24);
        due("part of the way", x.ups(0, 14, 4), 2);
        x.tilt(1, 0, 0, 0);
        due("each beside each", x.ups(1, 0, 5), 16);
        due("over the four in the middle", x.ups(2, 1, 0), 4);
    }

    private static void rings() {
        BodyCorners x = with("cube 3; cube 4; round 2 of 12; cross 2; round 2 of 13;");
        due("no body", x.ring(5, -1), UNKNOWN);
        due("k below", x.ring(1, -1), OUTSIDE);
        due("16 corners", x.ring(1, 0), LARGE);
        due("13 corners", x.ring(4, 99), LARGE);
        int[] cube = {0, 1, 3, 2, 6, 7, 5, 4};
        for (int k = 0; k < cube.length; k++) {
            due("ring(0, " + k + ")", x.ring(0, k), cube[k]);
        }
        due("not so many", x.ring(0, 8), NONE);
        due("12 corners", x.ring(2, 11), 11);
        int[] cross = {0, 2, 1, 3};
        for (int k = 0; k < cross.length; k++) {
            due("ring(3, " + k + ")", x.ring(3, k), cross[k]);
        }
        int stars = make(x, 3, STARRED);
        due("eleven corners", x.about(stars, 1), 11);
        due("27 edges", x.faces(stars, 1), 27);
        due("none", x.ring(stars, 0), NONE);
        due("none again", x.ring(stars, 10), NONE);
    }

    /** A double pyramid on a triangle with a low pyramid on each side: these six are never beside each other. */
    private static final int[] STARRED = {30, 0, 0, -15, 26, 0, -15, -26, 0, 0, 0, 30, 0, 0, -30,
        6, 10, 11, 6, -10, 11, -12, 0, 11, 6, 10, -11, 6, -10, -11, -12, 0, -11};

    private static void wheres() {
        BodyCorners x = with("cube 3; cube 2; cross 4;");
        due("no body", x.where(3), UNKNOWN);
        due("empty", x.where(0), NOT);
        x.point(1, 0, 1, 9);
        due("a corner", x.where(0), 0);
        due("a corner of 2", x.where(1), 0);
        x.wipe();
        int wide = make(x, 3, 0, 0, 0, 4, 0, 0, 0, 4, 0, 0, 0, 4);
        int[][] spots = {{1, 1, 1, 3}, {1, 1, 0, 2}, {2, 2, 0, 1}, {4, 0, 0, 0}, {2, 2, 2, -1}, {1, 1, 2, 2}, {0, 0, 3, 1}};
        for (int[] spot : spots) {
            x.point(spot[0], spot[1], spot[2], 77);
            due("where " + spot[0] + " " + spot[1] + " " + spot[2], x.where(wide), spot[3]);
        }
        due("the last point alone", x.count(1), spots.length);
        int far = make(x, 4, 3, 0, 0, 0, -3, 0, 0, 0, 0, 3, 0, 0, 0, -3, 0, 0, 0, 0, 3, 0, 0, 0, -3, 0, 0, 0, 0, 3, 0, 0, 0, -3);
        x.point(1, 1, 1, 0);
        due("in a ridge", x.where(far), 2);
        x.point(1, 2, 0, 0);
        due("in an edge", x.where(far), 1);
        x.point(1, 1, 0, 0);
        due("inside", x.where(far), 4);
        int big = make(x, 4, 4, 0, 0, 0, -4, 0, 0, 0, 0, 4, 0, 0, 0, -4, 0, 0, 0, 0, 4, 0, 0, 0, -4, 0, 0, 0, 0, 4, 0, 0, 0, -4);
        x.point(1, 1, -1, 1);
        due("in a facet", x.where(big), 3);
    }

    private static void partings() {
        BodyCorners x = with("cube 3;");
        due("no body", x.parted(1), UNKNOWN);
        due("empty", x.parted(0), NOT);
        x.point(0, 0, 1, 0);
        due("in it", x.parted(0), NONE);
        x.point(0, 0, -1, 0);
        due("below facet 0", x.parted(0), 0);
        x.point(0, 0, 2, 0);
        due("over facet 5", x.parted(0), 5);
        x.point(2, 2, 0, 0);
        due("by two: the first", x.parted(0), 3);
        x.point(2, 2, -2, 0);
        due("by three: the first", x.parted(0), 0);
        x.point(1, 1, 1, 999);
        due("w is not looked at", x.parted(0), NONE);
    }

    private static void holding() {
        BodyCorners x = with("cube 3; cross 3; cube 2;");
        due("no body", x.holds(0, 3), UNKNOWN);
        due("no body first", x.holds(3, 0), UNKNOWN);
        due("unlike D", x.holds(0, 2), OUTSIDE);
        due("itself", x.holds(0, 0), 8);
        due("three", x.holds(0, 1), 3);
        due("four", x.holds(1, 0), 4);
        int wide = make(x, 3, -9, -9, -9, 30, 0, 0, 0, 30, 0, 0, 0, 30);
        due("all", x.holds(wide, 0), 8);
        due("none", x.holds(0, wide), 0);
    }

    private static void sizes() {
        BodyCorners x = with("cube 2; cube 3; cube 4; cross 4; corner 3; round 2 of 16;");
        due("no body", x.size(6), UNKNOWN);
        due("square", x.size(0), 2);
        due("cube", x.size(1), 6);
        due("cube of 4", x.size(2), 24);
        due("cross of 4", x.size(3), 16);
        due("corner", x.size(4), 1);
        due("sixteen points of a bow", x.size(5), 16 * 15 * 14 / 3);
        int all = make(x, 4, -999, -999, -999, -999, 999, -999, -999, -999, -999, 999, -999, -999, 999, 999, -999, -999,
                -999, -999, 999, -999, 999, -999, 999, -999, -999, 999, 999, -999, 999, 999, 999, -999,
                -999, -999, -999, 999, 999, -999, -999, 999, -999, 999, -999, 999, 999, 999, -999, 999,
                -999, -999, 999, 999, 999, -999, 999, 999, -999, 999, 999, 999, 999, 999, 999, 999);
        due("the greatest", x.size(all), 24L * 1998 * 1998 * 1998 * 1998);
    }

    private static void piecing() {
        BodyCorners x = with("cube 3; round 2 of 5; cube 4;");
        due("no body", x.piece(3, 0, 9), UNKNOWN);
        due("what", x.piece(0, 0, 2), OUTSIDE);
        due("what below", x.piece(0, 99, -1), OUTSIDE);
        due("j below", x.piece(0, -1, 0), NONE);
        due("j above", x.piece(0, 6, 1), NONE);
        int[] cube = {139, 163, 141, 197, 177, 209};
        for (int j = 0; j < cube.length; j++) {
            due("piece(0, " + j + ", 0)", x.piece(0, j, 0), cube[j]);
            due("piece(0, " + j + ", 1)", x.piece(0, j, 1), 1);
        }
        int[] five = {7, 13, 25};
        int[] parts = {2, 6, 12};
        for (int j = 0; j < five.length; j++) {
            due("piece(1, " + j + ", 0)", x.piece(1, j, 0), five[j]);
            due("piece(1, " + j + ", 1)", x.piece(1, j, 1), parts[j]);
        }
        due("the last of 24", x.piece(2, 23, 0), 1 | 1 << 8 | 1 << 12 | 1 << 14 | 1 << 15);
        due("no 25th", x.piece(2, 24, 0), NONE);
    }

    private static void wholes() {
        BodyCorners x = with("cube 3; cross 4; cube 2;");
        due("no body", x.whole(3, 9, 9), UNKNOWN);
        due("s 0", x.whole(0, 0, 0), OUTSIDE);
        due("s 5", x.whole(0, 5, 0), OUTSIDE);
        due("what", x.whole(0, 1, 2), OUTSIDE);
        due("what below", x.whole(0, 1, -1), OUTSIDE);
        for (int s = 1; s <= 4; s++) {
            due("cube, " + s, x.whole(0, s, 0), (s + 1) * (s + 1) * (s + 1));
            due("inside, " + s, x.whole(0, s, 1), (s - 1) * (s - 1) * (s - 1));
        }
        int[] cross = {9, 41, 129, 321};
        int[] inner = {1, 9, 41, 129};
        for (int s = 1; s <= 4; s++) {
            due("cross, " + s, x.whole(1, s, 0), cross[s - 1]);
            due("cross inside, " + s, x.whole(1, s, 1), inner[s - 1]);
        }
        int[][] edges = {{9, 1, 2, 3}, {1, 9, 2, 3}, {1, 2, 9, 3}, {1, 2, 3, 9}};
        for (int k = 0; k < 4; k++) {
            int[] e = edges[k];
            int slim = make(x, 4, 0, 0, 0, 0, e[0], 0, 0, 0, 0, e[1], 0, 0, 0, 0, e[2], 0, 0, 0, 0, e[3],
                    e[0], e[1], 0, 0, 0, 0, e[2], e[3], e[0], e[1], e[2], 0, e[0], e[1], e[2], e[3]);
            due("long on axis " + k, x.whole(slim, 2, 0), lookedFor(x, slim, e, 0));
            due("inside, long on axis " + k, x.whole(slim, 2, 1), lookedFor(x, slim, e, 4));
        }
        int flat = make(x, 2, -4, 0, 5, 0, -4, 999, 5, 999);
        due("10000 places", x.whole(flat, 1, 0), 10000);
        due("inside", x.whole(flat, 1, 1), 8 * 998);
        due("19 by 1999", x.whole(flat, 2, 0), LARGE);
        int bound = make(x, 2, 0, 0, 19, 0, 0, 999, 19, 999);
        due("20000 places", x.whole(bound, 1, 0), 20000);
        int over = make(x, 3, 0, 0, 0, 2, 0, 0, 0, 58, 0, 0, 0, 112);
        due("20001 places in the box", x.whole(over, 1, 0), LARGE);
        due("OUTSIDE comes before LARGE", x.whole(over, 1, 2), OUTSIDE);
    }

    /** A body stretched by 2, as its numbers. */
    private static int[] twice(BodyCorners x, int i) {
        int[] numbers = new int[4 * x.about(i, 1)];
        for (int at = 0; at < numbers.length; at++) {
            numbers[at] = 2 * x.corner(i, at / 4, at % 4);
        }
        return numbers;
    }

    /** Places of a body stretched by 2 that WHERE says are in it by so much at least, each looked for by itself. */
    private static int lookedFor(BodyCorners x, int i, int[] ends, int least) {
        int found = 0;
        int[] numbers = twice(x, i);
        for (int a = 0; a <= 2 * ends[0]; a++) {
            for (int b = 0; b <= 2 * ends[1]; b++) {
                BodyCorners y = new BodyCorners();
                make(y, 4, numbers);
                for (int c = 0; c <= 2 * ends[2]; c++) {
                    for (int e = 0; e <= 2 * ends[3]; e++) {
                        y.wipe();
                        y.point(a, b, c, e);
                        found += y.where(0) >= least ? 1 : 0;
                    }
                }
            }
        }
        return found;
    }

    private static void feeding() {
        BodyCorners x = new BodyCorners();
        due("n 0", x.feed(0, 1), OUTSIDE);
        due("n 9", x.feed(9, 1), OUTSIDE);
        due("n below", x.feed(-1, 1), OUTSIDE);
        due("one", x.feed(1, 'c'), 1);
        due("two, the highest first", x.feed(2, 'u' << 8 | 'b'), 3);
        due("what is above is not looked at", x.feed(1, 0x7f00L | 'e'), 4);
        due("more", x.feed(3, ' ' << 16 | '3' << 8 | ';'), 7);
        due("read", x.read(), 1);
        due("a cube", x.about(0, 1), 8);
        for (int n = 1; n <= 19; n++) {
            due("eights", x.feed(8, 0x2020202020202020L), 8 * n);
        }
        due("nine more are too many", x.feed(7, 0), 159);
        due("FULL", x.feed(2, 0), FULL);
        due("OUTSIDE comes first", x.feed(9, 0), OUTSIDE);
        due("nothing changed", x.count(5), 159);
        due("160", x.feed(1, ' '), 160);
        due("FULL again", x.feed(1, ' '), FULL);
        due("bytes above 127 cannot stand", x.read(), -11);
        x.feed(1, -1);
        due("a byte of 255", x.read(), -11);
    }

    private static void dueFault(String text, int kind, int at) {
        BodyCorners x = new BodyCorners();
        due("read of '" + text + "'", readAll(x, text), -10 - kind);
        due("fault of '" + text + "'", x.fault(), at);
        due("empty behind '" + text + "'", x.count(5), 0);
        due("nothing done of '" + text + "'", x.count(0) + x.count(2), 0);
    }

    private static void dueDone(String text, int clauses) {
        BodyCorners x = new BodyCorners();
        due("read of '" + text + "'", readAll(x, text), clauses);
        due("fault of '" + text + "'", x.fault(), NONE);
        due("done of '" + text + "'", x.count(0) + x.count(2), clauses);
    }

    private static void reading() {
        dueDone("", 0);
        dueDone("    ", 0);
        dueDone("cube3;cross2;corner4;round3of10;claim0faces3<999;", 5);
        dueDone("  cube   3  ;   round 2 of   16 ; claim  all  faces 0 = 000 ;  ", 3);
        dueDone("cube 003;round 4 of 06;", 2);
        dueFault("cub 3;", 1, 0);
        dueFault("cubes 3;", 1, 0);
        dueFault("cube 3; Cube 3;", 1, 8);
        dueFault("cube 3;; cube 3;", 1, 7);
        dueFault("cube;", 1, 4);
        dueFault("cube 3", 1, 6);
        dueFault("cube 3  ", 1, 8);
        dueFault("cube 3 3;", 1, 7);
        dueFault("cube 3x;", 1, 6);
        dueFault("cube -3;", 1, 5);
        dueFault("cube 3 1234;", 1, 7);
        dueFault("cube 1;", 2, 5);
        dueFault("cube 5;", 2, 5);
        dueFault("cross 9;", 2, 6);
        dueFault("corner 0003;", 2, 7);
        dueFault("corner 2345678901234567890;", 2, 7);
        dueFault("round 3 3;", 1, 8);
        dueFault("round 3 of 3;", 2, 11);
        dueFault("round 2 of 17;", 2, 11);
        dueFault("round 3 of 11;", 2, 11);
        dueFault("round 4 of 7;", 2, 11);
        dueFault("round 4 of 4;", 2, 11);
        dueFault("round 5 of 7;", 2, 6);
        dueFault("round 3 off 7;", 1, 8);
        dueFault("round 3 of", 1, 10);
        dueFault("claimall faces 0 = 1;", 1, 0);
        dueFault("claim allfaces 0 = 1;", 1, 6);
        dueFault("claim all all faces 0 = 1;", 1, 10);
        dueFault("claim faces 0 = 1;", 1, 6);
        dueFault("claim 100 faces 0 = 1;", 2, 6);
        dueFault("claim 99 faces 4 = 1;", 2, 15);
        dueFault("claim 99 faces 3 ! 1;", 1, 17);
        dueFault("claim 99 faces 3 == 1;", 1, 18);
        dueFault("claim 99 faces 3 = 1000;", 2, 19);
        dueFault("claim 99 faces 3 = ;", 1, 19);
        dueFault("cube 3;\tcube 3;", 1, 7);
        dueFault("cube 3; claim all faces 9 = 1; cub", 2, 24);
        BodyCorners x = new BodyCorners();
        String four = "claim all faces 0 > 1;claim all faces 1 > 1;claim 3 faces 2 > 1;claim 4 faces 0 < 1;";
        due("four claims", readAll(x, four), 4);
        due("eight claims", readAll(x, four), 4);
        due("a ninth", readAll(x, "cube 3; claim all faces 0 = 1;"), -13);
        due("at its first letter", x.fault(), 8);
        due("nothing is done", x.count(0), 0);
        due("an earlier fault counts", readAll(x, "cube 9; claim all faces 0 = 1;"), -12);
        due("at the number", x.fault(), 5);
        due("a ninth, whatever follows", readAll(x, "claim ?"), -13);
        due("a claim that cannot stand", readAll(x, "cube claim"), -11);
        due("bodies still go", readAll(x, "cube 3;"), 1);
        due("no fault now", x.fault(), NONE);
        BodyCorners full = fullOf("");
        due("no room", readAll(full, "claim all faces 0 > 1;cube 3;claim all faces 0 > 1;"), 1);
        due("no fault", full.fault(), NONE);
        due("what came ahead is done", full.count(2), 1);
        BodyCorners drafting = new BodyCorners();
        drafting.point(1, 1, 1, 1);
        readAll(drafting, "round 3 of 4;");
        due("the draft stays", drafting.count(1), 1);
        dueCorner(drafting, 0, 3, 3, 9, 27);
        due("26 clauses, 24 of them done", readAll(new BodyCorners(), "cube2;".repeat(26)), 24);
        BodyCorners crowd = with("cube 2;".repeat(12));
        due("twelve", crowd.count(0), 12);
        due("26 of the shortest", readAll(crowd, "cube2;".repeat(26)), 12);
    }

    private static void faults() {
        BodyCorners x = new BodyCorners();
        due("none yet", x.fault(), NONE);
        readAll(x, "cube 7;");
        due("at 5", x.fault(), 5);
        x.feed(1, '?');
        due("till the next read", x.fault(), 5);
        x.read();
        due("at 0", x.fault(), 0);
        readAll(x, "cube 3;");
        due("none", x.fault(), NONE);
        StringBuilder blanks = new StringBuilder();
        for (int k = 0; k < 156; k++) {
            blanks.append(' ');
        }
        readAll(x, blanks + "cube");
        due("the end", x.fault(), 160);
    }

    private static void claiming() {
        BodyCorners x = new BodyCorners();
        readAll(x, "claim all faces 0 < 9; claim all faces 2 = 6; claim 1 faces 1 > 11;");
        readAll(x, "claim 2 faces 3 = 0; claim 99 faces 0 = 0;");
        due("below", x.claim(-1), UNKNOWN);
        due("above", x.claim(5), UNKNOWN);
        due("all, of none", x.claim(0), 0);
        due("all, of none again", x.claim(1), 0);
        due("no such body yet", x.claim(2), NONE);
        readAll(x, "cube 3;");
        due("held by the cube", x.claim(0), 0);
        due("six facets", x.claim(1), 0);
        due("no body 1 yet", x.claim(2), NONE);
        readAll(x, "cube 2;");
        due("0 cells of 2 in a square", x.claim(1), 101);
        due("four edges", x.claim(2), 101);
        readAll(x, "cube 4;");
        due("broken by the third", x.claim(0), 102);
        due("still the first that breaks it", x.claim(1), 101);
        due("eight facets, not 0", x.claim(3), 102);
        due("open", x.claim(4), NONE);
        BodyCorners y = with("cube 3; claim 0 faces 3 = 0; claim 0 faces 0 < 8; claim 0 faces 0 > 8; claim 0 faces 0 = 8;");
        due("none of K 3", y.claim(0), 0);
        due("less", y.claim(1), 100);
        due("more", y.claim(2), 100);
        due("just", y.claim(3), 0);
        readAll(y, "cube 2;");
        due("of that body alone", y.claim(3), 0);
    }

    public static void main(String[] args) {
        Runnable[] promises = {BodyCornersTest::newObject, BodyCornersTest::points, BodyCornersTest::wiping,
            BodyCornersTest::bodies, BodyCornersTest::cuts, BodyCornersTest::slices, BodyCornersTest::shadows,
            BodyCornersTest::raises, BodyCornersTest::products, BodyCornersTest::boths, BodyCornersTest::abouts,
            BodyCornersTest::cornersOf, BodyCornersTest::counts, BodyCornersTest::faceCounts,
            BodyCornersTest::faceSets, BodyCornersTest::lying, BodyCornersTest::hCounts, BodyCornersTest::sums,
            BodyCornersTest::sames, BodyCornersTest::insideOuts, BodyCornersTest::patterns, BodyCornersTest::sets,
            BodyCornersTest::places, BodyCornersTest::rows, BodyCornersTest::clears, BodyCornersTest::meeting,
            BodyCornersTest::freshes, BodyCornersTest::walking, BodyCornersTest::fars, BodyCornersTest::tilts,
            BodyCornersTest::ascending, BodyCornersTest::countingUp, BodyCornersTest::rings,
            BodyCornersTest::wheres, BodyCornersTest::partings, BodyCornersTest::holding, BodyCornersTest::sizes,
            BodyCornersTest::piecing, BodyCornersTest::wholes, BodyCornersTest::feeding, BodyCornersTest::reading,
            BodyCornersTest::faults, BodyCornersTest::claiming};
        for (Runnable test : promises) {
            promise++;
            test.run();
        }
        System.out.println(passed + " passed, " + failed + " failed");
        if (failed != 0) {
            System.exit(1);
        }
    }
}

import java.nio.charset.StandardCharsets;
import java.util.ArrayList;
import java.util.Arrays;
import java.util.List;

/**
 * Each refusal that the document names, on both sides of its bound; which of several comes first; and that what is
 * refused changes nothing: a twin made likewise, to which nothing was said, answers all later calls alike.
 */
public final class BodyCornersRefusals {
    private static final int NONE = BodyCorners.NONE;
    private static final int UNKNOWN = BodyCorners.UNKNOWN;
    private static final int OUTSIDE = BodyCorners.OUTSIDE;
    private static final int NOT = BodyCorners.NOT;
    private static final int FULL = BodyCorners.FULL;
    private static final int LARGE = BodyCorners.LARGE;
    private static final int MIN = Integer.MIN_VALUE;
    private static final int MAX = Integer.MAX_VALUE;

    /** Bodies that the state of most tests has, by their numbers. */
    private static final int CUBE = 0;
    private static final int TRIANGLE = 1;
    private static final int CROSS_4 = 2;
    private static final int PENTAGON = 3;
    private static final int CUBE_4 = 4;
    private static final int CROSS = 5;
    private static final int HALF = 6;
    private static final int BODIES = 7;

    private interface Call {
        long on(BodyCorners x);
    }

    private interface NumberCall {
        long on(BodyCorners x, int number);
    }

    private interface State {
        BodyCorners make();
    }

    private static int passed = 0;
    private static int failed = 0;
    private static int promise = 0;

    private static void due(String what, long got, long want) {
        if (got == want) {
            passed++;
        } else {
            failed++;
            if (failed <= 40) {
                System.out.println("promise " + promise + ": " + what + " answered " + got + ", due is " + want);
            }
        }
    }

    // ---- states

    private static void feedAll(BodyCorners x, String text) {
        byte[] bytes = text.getBytes(StandardCharsets.ISO_8859_1);
        for (int at = 0; at < bytes.length; at += 8) {
            int n = Math.min(8, bytes.length - at);
            long packed = 0;
            for (int k = 0; k < n; k++) {
                packed = packed << 8 | bytes[at + k] & 255;
            }
            x.feed(n, packed);
        }
    }

    private static void readAll(BodyCorners x, String text) {
        feedAll(x, text);
        x.read();
    }

    private static int make(BodyCorners x, int d, int... numbers) {
        for (int at = 0; at + d <= numbers.length; at += d) {
            x.point(numbers[at], numbers[at + 1], d > 2 ? numbers[at + 2] : 0, d > 3 ? numbers[at + 3] : 0);
        }
        return x.body(d);
    }

    private static final int[] SPOTS = {0, 0, 0, 0, 4, 0, 0, 0, 0, 4, 0, 0, 0, 0, 4, 0, 0, 0, 0, 4, 1, 1, 0, 0,
        5, 5, 0, 0, 0, 5, 5, 0, 0, 0, 5, 5, 5, 0, 0, 5, 6, 0, 6, 0, 0, 6, 0, 6, 7, 7, 7, 0, 0, 7, 7, 7,
        7, 0, 7, 7, 1, 0, 1, 0};

    private static final String[] CLAIMS = {"claim0faces0<9;", "claim all faces 0>3;", "claim 5 faces 1=11;",
        "claim 99 faces 2>0;", "claim0faces0<8;", "claim all faces 1>3;", "claim 4 faces 3=8;", "claim 23 faces 0>3;"};

    /** Something of all that an object can hold, as much of each as is told. */
    private static BodyCorners holding(int bodies, int points, int sets, int facets, int bytes, int claims) {
        BodyCorners x = new BodyCorners();
        readAll(x, "cube 3; corner 2; cross 4; round 2 of 5; cube 4; cross 3;");
        x.cut(CUBE, 2, 0, 0, 0, 1);
        readAll(x, "corner2;".repeat(bodies - BODIES));
        readAll(x, String.join("", Arrays.copyOf(CLAIMS, claims)));
        x.tilt(1, 2, 3, 4);
        for (int p = 0; p < points; p++) {
            x.point(SPOTS[4 * p], SPOTS[4 * p + 1], SPOTS[4 * p + 2], SPOTS[4 * p + 3]);
        }
        x.pattern(8);
        for (int set = 0; set < 256 && x.count(3) < sets; set++) {
            if (Integer.bitCount(set) == 3) {
                x.set(set);
            }
        }
        for (int f = 0; f < facets; f++) {
            x.row(f);
        }
        readAll(x, "cube 7;");
        feedAll(x, bytes < 8 ? " ".repeat(bytes) : " ".repeat(bytes - 8) + "cross 3;");
        return x;
    }

    private static BodyCorners some() {
        return holding(BODIES, 6, 3, 2, 8, 3);
    }

    private static BodyCorners crowded() {
        return holding(24, 6, 3, 2, 8, 3);
    }

    /** Just one BODY, number 0. */
    private static State one(int d, int... numbers) {
        return () -> {
            BodyCorners x = new BodyCorners();
            due("a body of the test itself", make(x, d, numbers), 0);
            return x;
        };
    }

    /** 24 BODIES, that one being the last, number 23. */
    private static State oneOfAll(int d, int... numbers) {
        return () -> {
            BodyCorners x = new BodyCorners();
            readAll(x, "cube2;".repeat(23));
            due("a body of the test itself", make(x, d, numbers), 23);
            return x;
        };
    }

    private static State text(String text) {
        return () -> {
            BodyCorners x = new BodyCorners();
            readAll(x, text);
            return x;
        };
    }

    // ---- what is looked at

    private static void lookAtBody(BodyCorners x, int i, List<Long> seen) {
        for (int what = 0; what < 3; what++) {
            seen.add((long) x.about(i, what));
        }
        seen.add(x.size(i));
        seen.add((long) x.where(i));
        seen.add((long) x.parted(i));
        seen.add((long) x.meets(i));
        seen.add((long) x.up(i, 0, 2));
        for (int c = 0; c < 16; c += 3) {
            for (int k = 0; k < 4; k += 2) {
                seen.add((long) x.corner(i, c, k));
            }
        }
    }

    /** Some 250 calls, which show all that the object holds. */
    private static List<Long> look(BodyCorners x) {
        List<Long> seen = new ArrayList<>();
        for (int what = 0; what < 7; what++) {
            seen.add((long) x.count(what));
        }
        seen.add((long) x.fault());
        for (int k = 0; k < 9; k++) {
            seen.add((long) x.claim(k));
        }
        for (int i : new int[] {0, 3, 6, x.count(0) - 1, x.count(0)}) {
            lookAtBody(x, i, seen);
        }
        for (int d = 2; d < 5; d++) {
            seen.add((long) x.place(d));
        }
        for (int n = 3; n < 12; n++) {
            seen.add((long) x.set(1 << n | 3));
        }
        for (int f = 0; f < 8; f++) {
            seen.add((long) x.row(f));
        }
        seen.add((long) x.clear());
        seen.add((long) x.body(4));
        seen.add((long) x.body(3));
        seen.add((long) x.count(1));
        lookAtBody(x, x.count(0) - 1, seen);
        seen.add((long) x.read());
        seen.add((long) x.fault());
        seen.add((long) x.count(5));
        seen.add((long) x.count(2));
        lookAtBody(x, x.count(0) - 1, seen);
        return seen;
    }

    private static void refused(String what, State state, Call call, long code) {
        BodyCorners x = state.make();
        due(what, call.on(x), code);
        List<Long> got = look(x);
        List<Long> want = look(state.make());
        due(what + ": nothing changes (" + firstUnlike(got, want) + ")", got.equals(want) ? 1 : 0, 1);
    }

    private static int firstUnlike(List<Long> one, List<Long> other) {
        for (int k = 0; k < one.size() && k < other.size(); k++) {
            if (!one.get(k).equals(other.get(k))) {
                return k;
            }
        }
        return NONE;
    }

    private static void taken(String what, State state, Call call, long answer) {
        due(what, call.on(state.make()), answer);
    }

    /** Refused below the least and above the most, also where a number could wrap around. */
    private static void beyond(String what, State state, NumberCall call, int least, int most, int code) {
        for (int number : new int[] {least - 1, most + 1, MIN, MIN + 1, MAX, MAX - 1}) {
            refused(what + " " + number, state, x -> call.on(x, number), code);
        }
    }

    /** What is answered at the least and at the most, and refused beyond. */
    private static void bounds(String what, NumberCall call, int least, long atLeast, int most, long atMost) {
        taken(what + " " + least, BodyCornersRefusals::some, x -> call.on(x, least), atLeast);
        taken(what + " " + most, BodyCornersRefusals::some, x -> call.on(x, most), atMost);
        beyond(what, BodyCornersRefusals::some, call, least, most, OUTSIDE);
    }

    /** BODIES that there are not: with some, with all 24, with none. */
    private static void unknown(String what, NumberCall call) {
        beyond(what + " of body", BodyCornersRefusals::some, call, 0, BODIES - 1, UNKNOWN);
        beyond(what + " of body", BodyCornersRefusals::crowded, call, 0, 23, UNKNOWN);
        refused(what + " of no body at all", BodyCorners::new, x -> call.on(x, 0), UNKNOWN);
        refused(what + " of body 32", BodyCornersRefusals::some, x -> call.on(x, 32), UNKNOWN);
        due(what + " of body 0 is not UNKNOWN", call.on(some(), 0) == UNKNOWN ? 1 : 0, 0);
        due(what + " of the last body is not UNKNOWN", call.on(some(), BODIES - 1) == UNKNOWN ? 1 : 0, 0);
        due(what + " of body 23 is not UNKNOWN", call.on(crowded(), 23) == UNKNOWN ? 1 : 0, 0);
    }

    private static void unlike(String what, long got, long code) {
        due(what + " is not refused so", got == code ? 1 : 0, 0);
    }

    // ---- points, bodies

    private static void point() {
        bounds("x", (x, n) -> x.point(n, 0, 0, 0), -999, 7, 999, 7);
        bounds("y", (x, n) -> x.point(0, n, 0, 0), -999, 7, 999, 7);
        bounds("z", (x, n) -> x.point(0, 0, n, 0), -999, 7, 999, 7);
        bounds("w", (x, n) -> x.point(0, 0, 0, n), -999, 7, 999, 7);
        State fifteen = () -> holding(BODIES, 15, 3, 2, 8, 3);
        State sixteen = () -> holding(BODIES, 16, 3, 2, 8, 3);
        taken("a 16th", fifteen, x -> x.point(0, 0, 0, 0), 16);
        refused("a 17th", sixteen, x -> x.point(0, 0, 0, 0), FULL);
        refused("a 17th like the 16th", sixteen, x -> x.point(1, 0, 1, 0), FULL);
        beyond("OUTSIDE ahead of FULL, x", sixteen, (x, n) -> x.point(n, 0, 0, 0), -999, 999, OUTSIDE);
        beyond("OUTSIDE ahead of FULL, w", sixteen, (x, n) -> x.point(0, 0, 0, n), -999, 999, OUTSIDE);
    }

    private static void wipe() {
        taken("of none", () -> holding(BODIES, 0, 3, 2, 8, 3), BodyCorners::wipe, 0);
        taken("of one", () -> holding(BODIES, 1, 3, 2, 8, 3), BodyCorners::wipe, 1);
        taken("of 16", () -> holding(BODIES, 16, 3, 2, 8, 3), BodyCorners::wipe, 16);
    }

    private static State drafted(int bodies, int... numbers) {
        return () -> {
            BodyCorners x = holding(bodies, 0, 3, 2, 8, 3);
            for (int at = 0; at + 4 <= numbers.length; at += 4) {
                x.point(numbers[at], numbers[at + 1], numbers[at + 2], numbers[at + 3]);
            }
            return x;
        };
    }

    private static void body() {
        bounds("D", BodyCorners::body, 2, BODIES, 4, BODIES);
        State none = drafted(BODIES);
        State inPlane = drafted(BODIES, 0, 0, 0, 0, 2, 0, 1, 0, 4, 0, 2, 0, 0, 0, 4, 0, 9, 0, 9, 0);
        for (int d = 2; d <= 4; d++) {
            int dim = d;
            refused("no POINT is flat in " + d, none, x -> x.body(dim), NOT);
            refused("POINTS with one coordinate alike are flat in " + d, inPlane, x -> x.body(dim), NOT);
            refused("16 like POINTS are flat in " + d, drafted(BODIES, new int[64]), x -> x.body(dim), NOT);
            refused("NOT ahead of FULL, " + d, drafted(24), x -> x.body(dim), NOT);
            refused("OUTSIDE ahead of NOT, " + d, none, x -> x.body(dim * 4), OUTSIDE);
        }
        refused("two are flat in 2", drafted(BODIES, 0, 0, 0, 0, 1, 1, 1, 1), x -> x.body(2), NOT);
        refused("three are flat in 3", drafted(BODIES, 0, 0, 0, 0, 1, 0, 0, 0, 0, 1, 0, 0), x -> x.body(3), NOT);
        taken("three are not in 2", drafted(BODIES, 0, 0, 0, 0, 1, 0, 0, 0, 0, 1, 0, 0), x -> x.body(2), BODIES);
        int[] four = {0, 0, 0, 0, 1, 0, 0, 0, 0, 1, 0, 0, 0, 0, 1, 0};
        refused("four are flat in 4", drafted(BODIES, four), x -> x.body(4), NOT);
        taken("four are not in 3", drafted(BODIES, four), x -> x.body(3), BODIES);
        taken("five are not in 4", () -> holding(BODIES, 5, 3, 2, 8, 3), x -> x.body(4), BODIES);
        int[] nearly = {-999, -999, 0, 0, 998, 998, 0, 0, 999, 999, 0, 0};
        refused("three on a long line", drafted(BODIES, nearly), x -> x.body(2), NOT);
        nearly[9] = 998;
        taken("one a place beside it", drafted(BODIES, nearly), x -> x.body(2), BODIES);
        refused("the fourth coordinate alone keeps them apart", drafted(BODIES, 0, 0, 0, 0, 1, 0, 0, 0, 0, 1, 0, 0,
                0, 0, 0, 9), x -> x.body(3), NOT);
        taken("the 24th", () -> holding(23, 6, 3, 2, 8, 3), x -> x.body(4), 23);
        refused("a 25th", BodyCornersRefusals::crowded, x -> x.body(4), FULL);
        beyond("OUTSIDE ahead of FULL", BodyCornersRefusals::crowded, BodyCorners::body, 2, 4, OUTSIDE);
    }

    private static void cut() {
        unknown("cut", (x, i) -> x.cut(i, 1, 1, 0, 0, 1));
        unknown("cut, UNKNOWN ahead of OUTSIDE", (x, i) -> x.cut(i, 10, 0, 0, 0, 10000));
        bounds("a0", (x, n) -> x.cut(CUBE_4, n, 0, 0, 1, 0), -9, BODIES, 9, NOT);
        bounds("a1", (x, n) -> x.cut(CUBE_4, 0, n, 0, 1, 0), -9, BODIES, 9, NOT);
        bounds("a2", (x, n) -> x.cut(CUBE_4, 1, 0, n, 0, 0), -9, BODIES, 9, NOT);
        bounds("a3", (x, n) -> x.cut(CUBE_4, 1, 0, 0, n, 0), -9, BODIES, 9, NOT);
        bounds("a2 of 3", (x, n) -> x.cut(CUBE, 1, 0, n, 0, 0), -9, BODIES, 9, NOT);
        bounds("a1 of 2", (x, n) -> x.cut(TRIANGLE, 1, n, 0, 0, 0), -9, BODIES, 9, NOT);
        bounds("b", (x, n) -> x.cut(CUBE, 1, 0, 0, 0, n), -9999, NOT, 9999, BODIES);
        for (int n : new int[] {MIN, -10, 10, MAX}) {
            taken("a3 is not looked at in 3", BodyCornersRefusals::some, x -> x.cut(CUBE, 1, 1, 1, n, 2), BODIES);
            taken("a2, a3 are not looked at in 2", BodyCornersRefusals::some, x -> x.cut(TRIANGLE, 2, 0, n, n, 1), BODIES);
            refused("a3 alone is none in 3", BodyCornersRefusals::some, x -> x.cut(CUBE, 0, 0, 0, n, 2), OUTSIDE);
            refused("a2, a3 alone are none in 2", BodyCornersRefusals::some, x -> x.cut(TRIANGLE, 0, 0, n, n, 2), OUTSIDE);
        }
        for (int i : new int[] {CUBE, TRIANGLE, CROSS_4}) {
            refused("all 0", BodyCornersRefusals::some, x -> x.cut(i, 0, 0, 0, 0, 1), OUTSIDE);
        }
        taken("a1 alone", BodyCornersRefusals::some, x -> x.cut(TRIANGLE, 0, 2, 0, 0, 1), BODIES);
        taken("a2 alone in 3", BodyCornersRefusals::some, x -> x.cut(CUBE, 0, 0, -2, 0, -1), BODIES);
        taken("a3 alone in 4", BodyCornersRefusals::some, x -> x.cut(CUBE_4, 0, 0, 0, -1, -1 + 1), BODIES);
        refused("nothing of it", BodyCornersRefusals::some, x -> x.cut(CUBE, 1, 0, 0, 0, -1), NOT);
        refused("a FACET alone", BodyCornersRefusals::some, x -> x.cut(CUBE, 1, 0, 0, 0, 0), NOT);
        refused("an EDGE alone", BodyCornersRefusals::some, x -> x.cut(CUBE, 1, 1, 0, 0, 0), NOT);
        refused("a CORNER alone", BodyCornersRefusals::some, x -> x.cut(CUBE, 1, 1, 1, 0, 0), NOT);
        taken("a little of it", BodyCornersRefusals::some, x -> x.cut(CUBE, 9, 9, 9, 0, 1), BODIES);
        refused("OUTSIDE ahead of NOT", BodyCornersRefusals::some, x -> x.cut(CUBE, 1, 0, 0, 0, -10000), OUTSIDE);
        cutFull();
        cutLarge();
    }

    private static void cutFull() {
        State bow = text("round 2 of 16;");
        taken("16 POINTS", bow, x -> x.cut(0, 1, 0, 0, 0, 14), 1);
        refused("17 POINTS", bow, x -> x.cut(0, 2, 0, 0, 0, 29), FULL);
        eachCutOff();
        taken("the 24th", () -> holding(23, 6, 3, 2, 8, 3), x -> x.cut(CUBE, 1, 1, 0, 0, 1), 23);
        refused("a 25th", BodyCornersRefusals::crowded, x -> x.cut(CUBE, 1, 1, 0, 0, 1), FULL);
        refused("NOT ahead of FULL", BodyCornersRefusals::crowded, x -> x.cut(CUBE, 1, 1, 0, 0, 0), NOT);
        refused("OUTSIDE ahead of FULL", BodyCornersRefusals::crowded, x -> x.cut(CUBE, 1, 1, 0, 0, 10000), OUTSIDE);
        refused("UNKNOWN ahead of FULL", BodyCornersRefusals::crowded, x -> x.cut(24, 1, 1, 0, 0, 1), UNKNOWN);
    }

    /**
     * Each CORNER of 16 cut off: through those beside it 15 POINTS are left, since an EDGE that ends where it is b gives
     * none; a place further out two EDGES give one each, and 17 are too many.
     */
    private static void eachCutOff() {
        int[] round = ringOf(16);
        for (int at = 0; at < round.length; at++) {
            round[at] *= 3;
        }
        State state = one(2, round);
        for (int c = 0; c < 16; c++) {
            int before = (c + 15) % 16 * 2;
            int behind = (c + 1) % 16 * 2;
            int a0 = (round[behind + 1] - round[before + 1]) / 3;
            int a1 = (round[before] - round[behind]) / 3;
            int b = a0 * round[before] + a1 * round[before + 1];
            BodyCorners x = state.make();
            due("CORNER " + c + " cut off through those beside it", x.cut(0, a0, a1, 0, 0, b), 1);
            due("15 of 16", x.about(1, 1), 15);
            due("none made whole", x.about(1, 2), 1);
            refused("CORNER " + c + " cut off further out", state, y -> y.cut(0, a0, a1, 0, 0, b + 1), FULL);
        }
    }

    private static void cutLarge() {
        taken("times 3 it is 999", one(2, 0, 0, 333, 0, 1, 3), x -> x.cut(0, 0, 1, 0, 0, 2), 1);
        refused("times 3 it is 1002", one(2, 0, 0, 334, 0, 1, 3), x -> x.cut(0, 0, 1, 0, 0, 2), LARGE);
        taken("times 3 it is -999", one(2, 0, 0, -333, 0, -1, 3), x -> x.cut(0, 0, 1, 0, 0, 2), 1);
        refused("times 3 it is -1002", one(2, 0, 0, -334, 0, -1, 3), x -> x.cut(0, 0, 1, 0, 0, 2), LARGE);
        State half = one(2, 0, 0, 500, 0, 1, 2);
        refused("times 2 it is 1000", half, x -> x.cut(0, 0, 1, 0, 0, 1), LARGE);
        taken("times 2 it is 998", one(2, 0, 0, 499, 0, 1, 2), x -> x.cut(0, 0, 1, 0, 0, 1), 1);
        refused("times 2 it is -1000", one(2, 0, 0, -500, 0, -1, 2), x -> x.cut(0, 0, 1, 0, 0, 1), LARGE);
        taken("what is cut off may be far", one(2, 0, 0, 999, 0, 0, 1, 999, 1), x -> x.cut(0, 2, 0, 0, 0, 1), 1);
        refused("OUTSIDE ahead of LARGE", half, x -> x.cut(0, 0, 1, 0, 0, 10000), OUTSIDE);
        refused("UNKNOWN ahead of LARGE", half, x -> x.cut(1, 0, 1, 0, 0, 1), UNKNOWN);
        refused("FULL ahead of LARGE: 24 BODIES", oneOfAll(2, 0, 0, 500, 0, 1, 2), x -> x.cut(23, 0, 1, 0, 0, 1), FULL);
        int[] bow = new int[32];
        for (int t = 0; t < 16; t++) {
            bow[2 * t] = t;
            bow[2 * t + 1] = 4 * t * t;
        }
        refused("16 POINTS that are LARGE", one(2, bow), x -> x.cut(0, 2, 0, 0, 0, 27), LARGE);
        refused("FULL ahead of LARGE: 17 POINTS", one(2, bow), x -> x.cut(0, 2, 0, 0, 0, 29), FULL);
        int[] primes = {0, 0, 997, 1, 991, 2, 983, 4, 977, 7, 900, 90};
        refused("a SCALE that runs away", one(2, primes), x -> x.cut(0, 9, 1, 0, 0, 7000), LARGE);
    }

    /** Eight CORNERS below and two above, whose sums are a prism of 16; a spire beside is a CORNER more of the slice. */
    private static final int[] SPINDLE = {4, 2, 0, -1, 2, 4, 0, -1, -2, 4, 0, -1, -4, 2, 0, -1, -4, -2, 0, -1,
        -2, -4, 0, -1, 2, -4, 0, -1, 4, -2, 0, -1, 0, 0, 2, 1, 0, 0, -2, 1, 0, 0, 9, 0};

    private static void slice() {
        unknown("slice", (x, i) -> x.slice(i, 0, 0));
        unknown("slice, UNKNOWN ahead of OUTSIDE", (x, i) -> x.slice(i, 4, 1000));
        bounds("k of 3", (x, n) -> x.slice(CUBE, n, 1), 0, BODIES, 2, BODIES);
        bounds("k of 4", (x, n) -> x.slice(CUBE_4, n, 1), 0, BODIES, 3, BODIES);
        bounds("c", (x, n) -> x.slice(CUBE, 0, n), -999, NOT, 999, NOT);
        taken("c 999", one(3, 999, 0, 0, 999, 1, 0, 999, 0, 1, 0, 0, 0), x -> x.slice(0, 0, 999), 1);
        taken("c -999", one(3, 0, -999, 0, 1, -999, 0, 0, -999, 1, 0, 0, 0), x -> x.slice(0, 1, -999), 1);
        for (int k = 0; k < 2; k++) {
            int axis = k;
            refused("D 2", BodyCornersRefusals::some, x -> x.slice(TRIANGLE, axis, 0), OUTSIDE);
            refused("D 2", BodyCornersRefusals::some, x -> x.slice(PENTAGON, axis, 1), OUTSIDE);
        }
        refused("nothing of it, above", BodyCornersRefusals::some, x -> x.slice(CUBE, 0, 2), NOT);
        refused("nothing of it, below", BodyCornersRefusals::some, x -> x.slice(CUBE, 2, -1), NOT);
        refused("a CORNER alone", BodyCornersRefusals::some, x -> x.slice(CROSS, 2, 1), NOT);
        refused("a CORNER alone, below", BodyCornersRefusals::some, x -> x.slice(CROSS_4, 3, -1), NOT);
        State roof = one(3, 0, 0, 0, 4, 0, 0, 0, 4, 0, 4, 4, 0, 0, 2, 1, 4, 2, 1);
        refused("an EDGE alone", roof, x -> x.slice(0, 2, 1), NOT);
        taken("a FACET alone", roof, x -> x.slice(0, 2, 0), 1);
        State wedge = one(4, 0, 0, 0, 0, 4, 0, 0, 0, 0, 4, 0, 0, 0, 0, 4, 0, 0, 0, 0, 1, 2, 0, 0, 1, 0, 2, 0, 1);
        refused("a RIDGE of 4 alone", wedge, x -> x.slice(0, 3, 1), NOT);
        taken("a FACET of 4 alone", wedge, x -> x.slice(0, 3, 0), 1);
        State eight = one(3, 999, 0, 0, -999, 0, 0, 0, 999, 0, 0, -999, 0, 0, 0, 999, 0, 0, -999);
        taken("a place below the top", eight, x -> x.slice(0, 0, 998), 1);
        refused("at the top", eight, x -> x.slice(0, 0, 999), NOT);
        refused("OUTSIDE ahead of NOT", BodyCornersRefusals::some, x -> x.slice(CUBE, 3, 2), OUTSIDE);
        sliceFull();
        sliceLarge();
    }

    private static void sliceFull() {
        taken("16 POINTS", one(4, Arrays.copyOf(SPINDLE, 40)), x -> x.slice(0, 3, 0), 1);
        refused("17 POINTS", one(4, SPINDLE), x -> x.slice(0, 3, 0), FULL);
        taken("the 24th", () -> holding(23, 6, 3, 2, 8, 3), x -> x.slice(CUBE, 0, 1), 23);
        refused("a 25th", BodyCornersRefusals::crowded, x -> x.slice(CUBE, 0, 1), FULL);
        refused("NOT (below it) ahead of FULL", BodyCornersRefusals::crowded, x -> x.slice(CUBE, 0, 2), NOT);
        refused("NOT (above it) ahead of FULL", BodyCornersRefusals::crowded, x -> x.slice(CUBE, 0, -1), NOT);
        for (int side = -1; side <= 1; side += 2) {
            int c = side;
            refused("NOT (a CORNER) ahead of FULL", BodyCornersRefusals::crowded, x -> x.slice(CROSS, 1, c), NOT);
            refused("NOT (a CORNER of 4) ahead of FULL", BodyCornersRefusals::crowded, x -> x.slice(CROSS_4, 3, c), NOT);
        }
        refused("OUTSIDE ahead of FULL", BodyCornersRefusals::crowded, x -> x.slice(CUBE, 3, 1), OUTSIDE);
        refused("UNKNOWN ahead of FULL", BodyCornersRefusals::crowded, x -> x.slice(24, 0, 1), UNKNOWN);
    }

    private static void sliceLarge() {
        taken("times 3 it is 999", one(3, 333, 0, 0, -333, 0, 0, 0, 1, -1, 0, 2, 2), x -> x.slice(0, 2, 0), 1);
        refused("times 3 it is 1002", one(3, 334, 0, 0, 0, 0, 0, 0, 1, -1, 0, 2, 2), x -> x.slice(0, 2, 0), LARGE);
        refused("times 3 it is -1002", one(3, 0, 0, 0, -334, 0, 0, 0, 1, -1, 0, 2, 2), x -> x.slice(0, 2, 0), LARGE);
        int[] half = {500, 0, 0, 0, 0, 0, 0, 1, -1, 0, 2, 1};
        refused("times 2 it is 1000", one(3, half), x -> x.slice(0, 2, 0), LARGE);
        taken("times 2 it is 998", one(3, 499, 0, 0, 0, 0, 0, 0, 1, -1, 0, 2, 1), x -> x.slice(0, 2, 0), 1);
        refused("FULL ahead of LARGE: 24 BODIES", oneOfAll(3, half), x -> x.slice(23, 2, 0), FULL);
        leftOutIsNeverLarge();
        int[] wide = SPINDLE.clone();
        wide[0] = 5;
        wide[42] = 999;
        refused("FULL ahead of LARGE: 17 POINTS", one(4, wide), x -> x.slice(0, 3, 0), FULL);
        int[] wider = Arrays.copyOf(SPINDLE, 40);
        for (int p = 0; p < 8; p++) {
            wider[4 * p] *= 249;
        }
        for (int p = 8; p < 10; p++) {
            wider[4 * p + 2] /= 2;
            wider[4 * p + 3] = 2;
        }
        refused("16 POINTS that are LARGE", one(4, wider), x -> x.slice(0, 3, 0), LARGE);
        refused("OUTSIDE ahead of LARGE", one(4, wider), x -> x.slice(0, 4, 0), OUTSIDE);
        refused("UNKNOWN ahead of LARGE", one(4, wider), x -> x.slice(1, 3, 0), UNKNOWN);
    }

    /** The coordinate that a SLICE leaves out is not in the new BODY: times SCALE it may be beyond 999. */
    private static void leftOutIsNeverLarge() {
        for (int d = 3; d <= 4; d++) {
            for (int k = 0; k < d; k++) {
                for (int side = -1; side <= 1; side += 2) {
                    int[] numbers = new int[d * (d + 2)];
                    for (int c = 0; c < d + 2; c++) {
                        numbers[d * c + k] = side * (c == 0 ? 997 : c == d + 1 ? 998 : 999);
                        if (c > 0 && c <= d) {
                            numbers[d * c + (k + c) % d] += c < d ? 1 : 0;
                        }
                    }
                    numbers[d * (d + 1) + (k + 1) % d] = 9;
                    int axis = k;
                    int c = side * 998;
                    BodyCorners x = one(d, numbers).make();
                    due("SLICE of " + d + " by " + k + " at " + c, x.slice(0, axis, c), 1);
                    due("its SCALE", x.about(1, 2), 2);
                    due("its D", x.about(1, 0), d - 1);
                }
            }
        }
    }

    private static void shadow() {
        unknown("shadow", (x, i) -> x.shadow(i, 0));
        unknown("shadow, UNKNOWN ahead of OUTSIDE", (x, i) -> x.shadow(i, -1));
        bounds("k of 3", (x, n) -> x.shadow(CUBE, n), 0, BODIES, 2, BODIES);
        bounds("k of 4", (x, n) -> x.shadow(CUBE_4, n), 0, BODIES, 3, BODIES);
        refused("D 2", BodyCornersRefusals::some, x -> x.shadow(TRIANGLE, 0), OUTSIDE);
        refused("D 2", BodyCornersRefusals::some, x -> x.shadow(PENTAGON, 1), OUTSIDE);
        taken("the 24th", () -> holding(23, 6, 3, 2, 8, 3), x -> x.shadow(CUBE, 0), 23);
        refused("a 25th", BodyCornersRefusals::crowded, x -> x.shadow(CUBE, 0), FULL);
        refused("OUTSIDE ahead of FULL", BodyCornersRefusals::crowded, x -> x.shadow(CUBE, 3), OUTSIDE);
        refused("OUTSIDE, D 2, ahead of FULL", BodyCornersRefusals::crowded, x -> x.shadow(TRIANGLE, 0), OUTSIDE);
        refused("UNKNOWN ahead of FULL", BodyCornersRefusals::crowded, x -> x.shadow(24, 0), UNKNOWN);
    }

    /** Sixteen places so round and so near that many can be told times how many they are. */
    private static int[] ringOf(int many) {
        int[] steps = {1, 0, 2, 1, 1, 1, 1, 2, 0, 1, -1, 2, -1, 1, -2, 1};
        int[] places = new int[2 * many];
        int x = 0;
        int y = 0;
        for (int p = 0; p < many; p++) {
            places[2 * p] = x;
            places[2 * p + 1] = y;
            int at = 2 * (p % 8);
            x += p < 8 ? steps[at] : -steps[at];
            y += p < 8 ? steps[at + 1] : -steps[at + 1];
        }
        return places;
    }

    private static void raise() {
        unknown("raise", (x, i) -> x.raise(i, 1, 1));
        unknown("raise, UNKNOWN ahead of OUTSIDE", (x, i) -> x.raise(i, 3, 0));
        bounds("kind", (x, n) -> x.raise(CUBE, n, 1), 0, BODIES, 2, BODIES);
        for (int kind = 0; kind < 3; kind++) {
            int which = kind;
            bounds("h of kind " + kind, (x, n) -> x.raise(CUBE, which, n), 1, BODIES, 99, BODIES);
            bounds("h of kind " + kind + " on 2", (x, n) -> x.raise(TRIANGLE, which, n), 1, BODIES, 99, BODIES);
            refused("D 4, kind " + kind, BodyCornersRefusals::some, x -> x.raise(CROSS_4, which, 1), OUTSIDE);
            refused("D 4 with 16 CORNERS", BodyCornersRefusals::some, x -> x.raise(CUBE_4, which, 1), OUTSIDE);
            taken("the 24th", () -> holding(23, 6, 3, 2, 8, 3), x -> x.raise(CUBE, which, 1), 23);
            refused("a 25th", BodyCornersRefusals::crowded, x -> x.raise(CUBE, which, 1), FULL);
            refused("OUTSIDE (h) ahead of FULL", BodyCornersRefusals::crowded, x -> x.raise(CUBE, which, 0), OUTSIDE);
            refused("OUTSIDE (D 4) ahead of FULL", BodyCornersRefusals::crowded, x -> x.raise(CUBE_4, which, 1), OUTSIDE);
            refused("UNKNOWN ahead of FULL", BodyCornersRefusals::crowded, x -> x.raise(24, which, 1), UNKNOWN);
        }
        taken("PRISM of 16", one(2, ringOf(8)), x -> x.raise(0, 0, 1), 1);
        refused("PRISM of 18", one(2, ringOf(9)), x -> x.raise(0, 0, 1), FULL);
        taken("PYRAMID of 16", one(2, ringOf(15)), x -> x.raise(0, 1, 1), 1);
        refused("PYRAMID of 17", one(2, ringOf(16)), x -> x.raise(0, 1, 1), FULL);
        taken("DOUBLE of 16", one(2, ringOf(14)), x -> x.raise(0, 2, 1), 1);
        refused("DOUBLE of 17", one(2, ringOf(15)), x -> x.raise(0, 2, 1), FULL);
        refused("DOUBLE of 18", one(2, ringOf(16)), x -> x.raise(0, 2, 1), FULL);
        raiseLarge();
    }

    private static void raiseLarge() {
        taken("3 times 333", one(2, 0, 0, 333, 0, 0, 333), x -> x.raise(0, 2, 99), 1);
        refused("3 times 334", one(2, 0, 0, 334, 0, 0, 1), x -> x.raise(0, 2, 1), LARGE);
        taken("3 times -333", one(2, 0, 0, -333, 0, 0, -333), x -> x.raise(0, 2, 1), 1);
        refused("3 times -334", one(2, 0, 0, 1, 0, 0, -334), x -> x.raise(0, 2, 1), LARGE);
        taken("4 times 249", one(3, 0, 0, 0, 1, 0, 0, 0, 1, 0, 0, 0, 249), x -> x.raise(0, 2, 1), 1);
        refused("4 times 250", one(3, 0, 0, 0, 1, 0, 0, 0, 1, 0, 0, 0, 250), x -> x.raise(0, 2, 1), LARGE);
        refused("4 times -250", one(3, 0, 0, 0, 1, 0, 0, 0, -250, 0, 0, 0, 1), x -> x.raise(0, 2, 1), LARGE);
        for (int d = 2; d <= 3; d++) {
            int most = 999 / (d + 1);
            for (int at = 0; at < d * (d + 1); at++) {
                for (int side = -1; side <= 1; side += 2) {
                    int[] numbers = new int[d * (d + 1)];
                    for (int c = 0; c < d; c++) {
                        numbers[d * (c + 1) + c] = 1;
                    }
                    numbers[at] = side * most;
                    taken("just 999 or less, at " + at, one(d, numbers), x -> x.raise(0, 2, 1), 1);
                    numbers = numbers.clone();
                    numbers[at] = side * (most + 1);
                    refused("more than 999, at " + at, one(d, numbers), x -> x.raise(0, 2, 1), LARGE);
                }
            }
        }
        State wide = one(2, 999, 999, -999, 999, 0, -999);
        refused("even if their sum is small", wide, x -> x.raise(0, 2, 1), LARGE);
        taken("a PRISM is never LARGE", wide, x -> x.raise(0, 0, 99), 1);
        taken("a PYRAMID is never LARGE", wide, x -> x.raise(0, 1, 99), 1);
        refused("OUTSIDE (h) ahead of LARGE", wide, x -> x.raise(0, 2, 100), OUTSIDE);
        refused("OUTSIDE (kind) ahead of LARGE", wide, x -> x.raise(0, 3, 1), OUTSIDE);
        refused("UNKNOWN ahead of LARGE", wide, x -> x.raise(1, 2, 1), UNKNOWN);
        State last = oneOfAll(2, 999, 999, -999, 999, 0, -999);
        refused("FULL ahead of LARGE: 24 BODIES", last, x -> x.raise(23, 2, 1), FULL);
        refused("FULL ahead of LARGE: 17 POINTS", text("round 2 of 15;"), x -> x.raise(0, 2, 1), FULL);
        refused("16 POINTS that are LARGE", text("round 2 of 14;"), x -> x.raise(0, 2, 1), LARGE);
    }

    private static void product() {
        unknown("product, the one", (x, i) -> x.product(i, TRIANGLE));
        unknown("product, the other", (x, i) -> x.product(TRIANGLE, i));
        unknown("product, UNKNOWN ahead of OUTSIDE, the one", (x, i) -> x.product(i, CUBE));
        unknown("product, UNKNOWN ahead of OUTSIDE, the other", (x, i) -> x.product(CUBE, i));
        taken("two of 2", BodyCornersRefusals::some, x -> x.product(TRIANGLE, PENTAGON), BODIES);
        for (int i : new int[] {CUBE, CROSS_4}) {
            refused("the one not of 2", BodyCornersRefusals::some, x -> x.product(i, TRIANGLE), OUTSIDE);
            refused("the other not of 2", BodyCornersRefusals::some, x -> x.product(TRIANGLE, i), OUTSIDE);
            refused("OUTSIDE ahead of FULL", BodyCornersRefusals::crowded, x -> x.product(i, TRIANGLE), OUTSIDE);
            refused("both alike, not of 2", BodyCornersRefusals::some, x -> x.product(i, i), OUTSIDE);
        }
        State flat = text("cube 2; corner 2; round 2 of 5; round 2 of 6;");
        taken("16 POINTS", flat, x -> x.product(0, 0), 4);
        taken("15 POINTS", flat, x -> x.product(1, 2), 4);
        refused("18 POINTS", flat, x -> x.product(1, 3), FULL);
        refused("18 POINTS the other way", flat, x -> x.product(3, 1), FULL);
        refused("20 POINTS", flat, x -> x.product(0, 2), FULL);
        taken("the 24th", () -> holding(23, 6, 3, 2, 8, 3), x -> x.product(TRIANGLE, PENTAGON), 23);
        refused("a 25th", BodyCornersRefusals::crowded, x -> x.product(TRIANGLE, PENTAGON), FULL);
        refused("UNKNOWN ahead of FULL", BodyCornersRefusals::crowded, x -> x.product(TRIANGLE, 24), UNKNOWN);
    }

    /** Two BODIES of 2, the second of so many CORNERS on a bow from a place. */
    private static State pair(int x0, int y0, int many) {
        return () -> {
            BodyCorners x = new BodyCorners();
            make(x, 2, 4, 2, 2, 4, -2, 4, -4, 2, -4, -2, -2, -4, 2, -4, 4, -2);
            int[] bow = new int[2 * many];
            for (int t = 0; t < many; t++) {
                bow[2 * t] = x0 + t;
                bow[2 * t + 1] = y0 + t * t;
            }
            due("a body of the test itself", make(x, 2, bow), 1);
            return x;
        };
    }

    private static void both() {
        unknown("both, the one", (x, i) -> x.both(i, CUBE));
        unknown("both, the other", (x, i) -> x.both(CUBE, i));
        refused("D 3 and D 2", BodyCornersRefusals::some, x -> x.both(CUBE, TRIANGLE), OUTSIDE);
        refused("D 2 and D 3", BodyCornersRefusals::some, x -> x.both(TRIANGLE, CUBE), OUTSIDE);
        refused("D 4 and D 3", BodyCornersRefusals::some, x -> x.both(CROSS_4, CROSS), OUTSIDE);
        taken("D 3 and D 3", BodyCornersRefusals::some, x -> x.both(CUBE, CROSS), BODIES);
        taken("D 4 with itself", BodyCornersRefusals::some, x -> x.both(CUBE_4, CUBE_4), BODIES);
        taken("8 and 8 POINTS", pair(20, 2, 8), x -> x.both(0, 1), 2);
        refused("8 and 9 POINTS", pair(20, 2, 9), x -> x.both(0, 1), FULL);
        taken("8 and 9 POINTS, of them two alike", pair(4, 2, 9), x -> x.both(0, 1), 2);
        taken("likewise the other way", pair(4, 2, 9), x -> x.both(1, 0), 2);
        refused("8 and 10 POINTS, of them two alike", pair(4, 2, 10), x -> x.both(0, 1), FULL);
        refused("17 POINTS, few of them CORNERS then", text("cube 4; corner 4; cross 4;"), x -> x.both(0, 2), FULL);
        taken("16 POINTS, few of them told twice", text("cube 4; corner 4; cross 4;"), x -> x.both(0, 1), 3);
        taken("the 24th", () -> holding(23, 6, 3, 2, 8, 3), x -> x.both(CUBE, CROSS), 23);
        refused("a 25th", BodyCornersRefusals::crowded, x -> x.both(CUBE, CROSS), FULL);
        refused("OUTSIDE ahead of FULL", BodyCornersRefusals::crowded, x -> x.both(CUBE, TRIANGLE), OUTSIDE);
        refused("OUTSIDE ahead of FULL: 17 POINTS", BodyCornersRefusals::some, x -> x.both(CUBE_4, CROSS), OUTSIDE);
        refused("UNKNOWN ahead of FULL", BodyCornersRefusals::crowded, x -> x.both(CUBE, 24), UNKNOWN);
    }

    private static void about() {
        unknown("about", (x, i) -> x.about(i, 0));
        unknown("about, UNKNOWN ahead of OUTSIDE", (x, i) -> x.about(i, 7));
        bounds("what", (x, n) -> x.about(CUBE, n), 0, 3, 6, 6);
    }

    private static void corner() {
        unknown("corner", (x, i) -> x.corner(i, 0, 0));
        unknown("corner, UNKNOWN ahead of OUTSIDE", (x, i) -> x.corner(i, 0, 4));
        beyond("c", BodyCornersRefusals::some, (x, n) -> x.corner(CUBE, n, 0), 0, 7, UNKNOWN);
        beyond("c, ahead of OUTSIDE", BodyCornersRefusals::some, (x, n) -> x.corner(CUBE, n, 3), 0, 7, UNKNOWN);
        beyond("c of 16", BodyCornersRefusals::some, (x, n) -> x.corner(CUBE_4, n, 0), 0, 15, UNKNOWN);
        taken("the last of 8", BodyCornersRefusals::some, x -> x.corner(CUBE, 7, 0), 1);
        taken("the last of 16", BodyCornersRefusals::some, x -> x.corner(CUBE_4, 15, 3), 1);
        refused("c 32", BodyCornersRefusals::some, x -> x.corner(CUBE, 32, 0), UNKNOWN);
        bounds("k of 2", (x, n) -> x.corner(TRIANGLE, 2, n), 0, 0, 1, 1);
        bounds("k of 3", (x, n) -> x.corner(CUBE, 4, n), 0, 0, 2, 1);
        bounds("k of 4", (x, n) -> x.corner(CUBE_4, 8, n), 0, 0, 3, 1);
    }

    private static void count() {
        bounds("what", BodyCorners::count, 0, BODIES, 6, 54);
        State most = () -> holding(24, 16, 24, 104, 160, 8);
        int[] full = {24, 16, 8, 24, 104, 160, 54 + 17 * 3};
        int[] none = {0, 0, 0, 0, 0, 0, 0};
        for (int what = 0; what < full.length; what++) {
            int which = what;
            taken("count " + what + " of all that there can be", most, x -> x.count(which), full[what]);
            taken("count " + what + " of nothing", BodyCorners::new, x -> x.count(which), none[what]);
        }
    }

    // ---- faces

    private static void faces() {
        unknown("faces", (x, i) -> x.faces(i, 0));
        unknown("faces, UNKNOWN ahead of OUTSIDE", (x, i) -> x.faces(i, 4));
        bounds("K of 2", (x, n) -> x.faces(TRIANGLE, n), 0, 3, 3, 0);
        bounds("K of 3", (x, n) -> x.faces(CUBE, n), 0, 8, 3, 0);
        bounds("K of 4", (x, n) -> x.faces(CUBE_4, n), 0, 16, 3, 8);
    }

    private static void face() {
        unknown("face", (x, i) -> x.face(i, 0, 0));
        unknown("face, UNKNOWN ahead of OUTSIDE", (x, i) -> x.face(i, 4, 0));
        bounds("K of 2", (x, n) -> x.face(TRIANGLE, n, 0), 0, 1, 1, 3);
        bounds("K of 3", (x, n) -> x.face(CUBE, n, 0), 0, 1, 2, 15);
        bounds("K of 4", (x, n) -> x.face(CUBE_4, n, 0), 0, 1, 3, 255);
        bounds("K, OUTSIDE ahead of UNKNOWN (the CELL)", (x, n) -> x.face(CUBE, n, 99), 0, UNKNOWN, 2, UNKNOWN);
        int[] counts = {8, 12, 6};
        for (int k = 0; k < 3; k++) {
            int dim = k;
            beyond("CELL of " + k, BodyCornersRefusals::some, (x, n) -> x.face(CUBE, dim, n), 0, counts[k] - 1, UNKNOWN);
            unlike("the last CELL of " + k, some().face(CUBE, k, counts[k] - 1), UNKNOWN);
        }
    }

    private static void lies() {
        unknown("lies", (x, i) -> x.lies(i, 0, 0, 0));
        unknown("lies, UNKNOWN ahead of OUTSIDE", (x, i) -> x.lies(i, 4, 0, 0));
        bounds("K of 2", (x, n) -> x.lies(TRIANGLE, n, 0, 0), 0, 1, 1, 2);
        bounds("K of 3", (x, n) -> x.lies(CUBE, n, 0, 0), 0, 1, 2, 4);
        bounds("K of 4", (x, n) -> x.lies(CUBE_4, n, 0, 0), 0, 1, 3, 8);
        bounds("L of 2", (x, n) -> x.lies(TRIANGLE, 0, 0, n), 0, 1, 1, 2);
        bounds("L of 3", (x, n) -> x.lies(CUBE, 0, 0, n), 0, 1, 2, 3);
        bounds("L of 4", (x, n) -> x.lies(CUBE_4, 0, 0, n), 0, 1, 3, 4);
        bounds("K, OUTSIDE ahead of UNKNOWN (the CELL)", (x, n) -> x.lies(CUBE, n, 99, 0), 0, UNKNOWN, 2, UNKNOWN);
        bounds("L, OUTSIDE ahead of UNKNOWN (the CELL)", (x, n) -> x.lies(CUBE, 0, 99, n), 0, UNKNOWN, 2, UNKNOWN);
        int[] counts = {8, 12, 6};
        for (int k = 0; k < 3; k++) {
            int dim = k;
            beyond("CELL of " + k, BodyCornersRefusals::some, (x, n) -> x.lies(CUBE, dim, n, 1), 0, counts[k] - 1, UNKNOWN);
            unlike("the last CELL of " + k, some().lies(CUBE, k, counts[k] - 1, 1), UNKNOWN);
        }
    }

    private static void h() {
        unknown("h", (x, i) -> x.h(i, 0));
        unknown("h, UNKNOWN ahead of OUTSIDE", (x, i) -> x.h(i, 5));
        bounds("k of 2", (x, n) -> x.h(PENTAGON, n), 0, 1, 2, 1);
        bounds("k of 3", (x, n) -> x.h(CROSS, n), 0, 1, 3, 1);
        bounds("k of 4", (x, n) -> x.h(CROSS_4, n), 0, 1, 4, 1);
        bounds("k, OUTSIDE ahead of NOT", (x, n) -> x.h(CUBE, n), 0, NOT, 3, NOT);
        bounds("k of 4, OUTSIDE ahead of NOT", (x, n) -> x.h(CUBE_4, n), 0, NOT, 4, NOT);
        State roof = one(3, 0, 0, 0, 4, 0, 0, 0, 4, 0, 4, 4, 0, 2, 2, 1);
        refused("one FACET has D and 1 CORNERS", roof, x -> x.h(0, 0), NOT);
    }

    private static void sum() {
        unknown("sum", BodyCorners::sum);
    }

    // ---- patterns

    private static void same() {
        unknown("same, the one", (x, i) -> x.same(i, CUBE));
        unknown("same, the other", (x, i) -> x.same(CUBE, i));
        unknown("same, the other of unlike D", (x, i) -> x.same(TRIANGLE, i));
        unknown("same, twice", (x, i) -> x.same(i, i));
        taken("unlike D", BodyCornersRefusals::some, x -> x.same(CUBE, CUBE_4), 0);
    }

    private static void inside() {
        unknown("inside, the one", (x, i) -> x.inside(i, CUBE));
        unknown("inside, the other", (x, i) -> x.inside(CUBE, i));
        unknown("inside, the other of unlike D", (x, i) -> x.inside(TRIANGLE, i));
        unknown("inside, twice", (x, i) -> x.inside(i, i));
        taken("unlike D", BodyCornersRefusals::some, x -> x.inside(CUBE, CROSS_4), 0);
    }

    private static void pattern() {
        bounds("n", BodyCorners::pattern, 3, 1, 12, 1);
    }

    private static void set() {
        for (int n = 3; n <= 12; n++) {
            int corners = n;
            State fresh = () -> {
                BodyCorners x = new BodyCorners();
                x.pattern(corners);
                return x;
            };
            beyond("bits of " + n, fresh, BodyCorners::set, 1, (1 << n) - 1, OUTSIDE);
            taken("all bits of " + n, fresh, x -> x.set((1 << corners) - 1), 1);
            taken("the last bit of " + n, fresh, x -> x.set(1 << corners - 1), 1);
            refused("a bit too high beside good ones", fresh, x -> x.set(1 << corners | 3), OUTSIDE);
        }
        taken("of 3 corners at first", BodyCorners::new, x -> x.set(7), 1);
        refused("not of 4 at first", BodyCorners::new, x -> x.set(8), OUTSIDE);
        for (int high : new int[] {MIN, 1 << 30, 1 << 16, 1 << 8}) {
            refused("a high bit beside good ones", BodyCornersRefusals::some, x -> x.set(high | 19), OUTSIDE);
        }
        refused("none", BodyCornersRefusals::some, x -> x.set(0), OUTSIDE);
        taken("a 4th", BodyCornersRefusals::some, x -> x.set(19), 4);
        for (int there : new int[] {7, 11, 13}) {
            refused("there already", BodyCornersRefusals::some, x -> x.set(there), NOT);
        }
        refused("one corner fewer than the first", BodyCornersRefusals::some, x -> x.set(3), NOT);
        refused("one corner more than the first", BodyCornersRefusals::some, x -> x.set(15), NOT);
        refused("OUTSIDE ahead of NOT", BodyCornersRefusals::some, x -> x.set(256 | 15), OUTSIDE);
        State almost = () -> holding(BODIES, 6, 23, 2, 8, 3);
        State full = () -> holding(BODIES, 6, 24, 2, 8, 3);
        taken("a 24th", almost, x -> x.set(224), 24);
        refused("a 25th", full, x -> x.set(224), FULL);
        refused("NOT (there) ahead of FULL", full, x -> x.set(7), NOT);
        refused("NOT (fewer) ahead of FULL", full, x -> x.set(192), NOT);
        refused("NOT (more) ahead of FULL", full, x -> x.set(240), NOT);
        refused("OUTSIDE ahead of FULL", full, x -> x.set(256 | 192), OUTSIDE);
        refused("OUTSIDE (none) ahead of FULL", full, x -> x.set(0), OUTSIDE);
    }

    private static void place() {
        bounds("D", BodyCorners::place, 2, NOT, 4, NOT);
        taken("its SETS have 3 corners", BodyCornersRefusals::some, x -> x.place(3), 1);
        for (int d = 2; d <= 4; d++) {
            int dim = d;
            refused("no SETS", () -> holding(BODIES, 6, 0, 2, 8, 3), x -> x.place(dim), NOT);
        }
        beyond("OUTSIDE ahead of NOT", () -> holding(BODIES, 6, 0, 2, 8, 3), BodyCorners::place, 2, 4, OUTSIDE);
    }

    private static void row() {
        bounds("facet", BodyCorners::row, 0, NOT, 199, 3);
        taken("facet 0", BodyCorners::new, x -> x.row(0), 1);
        refused("there, the first", BodyCornersRefusals::some, x -> x.row(0), NOT);
        refused("there, the last", BodyCornersRefusals::some, x -> x.row(1), NOT);
        taken("not there", BodyCornersRefusals::some, x -> x.row(2), 3);
        State almost = () -> holding(BODIES, 6, 3, 103, 8, 3);
        State full = () -> holding(BODIES, 6, 3, 104, 8, 3);
        taken("a 104th", almost, x -> x.row(199), 104);
        refused("a 105th", full, x -> x.row(199), FULL);
        refused("NOT ahead of FULL", full, x -> x.row(103), NOT);
        refused("NOT ahead of FULL, the first", full, x -> x.row(0), NOT);
        beyond("OUTSIDE ahead of FULL", full, BodyCorners::row, 0, 199, OUTSIDE);
    }

    private static void clear() {
        taken("of none", () -> holding(BODIES, 6, 3, 0, 8, 3), BodyCorners::clear, 0);
        taken("of one", () -> holding(BODIES, 6, 3, 1, 8, 3), BodyCorners::clear, 1);
        taken("of 104", () -> holding(BODIES, 6, 3, 104, 8, 3), BodyCorners::clear, 104);
    }

    private static State rowOf(int facets) {
        return () -> holding(BODIES, 6, 3, facets, 8, 3);
    }

    private static void meets() {
        unknown("meets", BodyCorners::meets);
        refused("not SIMPLE-FACED", rowOf(6), x -> x.meets(CUBE), NOT);
        refused("not SIMPLE-FACED, the row empty", rowOf(0), x -> x.meets(CUBE), NOT);
        refused("a FACET that it has not, ahead of NOT", rowOf(7), x -> x.meets(CUBE), UNKNOWN);
        taken("all its FACETS", rowOf(8), x -> x.meets(CROSS), NONE);
        refused("one more than it has", rowOf(9), x -> x.meets(CROSS), UNKNOWN);
        taken("all three", rowOf(3), x -> x.meets(TRIANGLE), NONE);
        refused("a fourth", rowOf(4), x -> x.meets(TRIANGLE), UNKNOWN);
        refused("the greatest FACET number", () -> {
            BodyCorners x = some();
            x.row(199);
            return x;
        }, x -> x.meets(CROSS), UNKNOWN);
    }

    private static void fresh() {
        unknown("fresh", (x, i) -> x.fresh(i, 0));
        unknown("fresh, UNKNOWN ahead of OUTSIDE", (x, i) -> x.fresh(i, 5));
        bounds("k", (x, n) -> x.fresh(CROSS, n), 0, 1, 4, 0);
        bounds("k, OUTSIDE ahead of NOT", (x, n) -> x.fresh(CUBE, n), 0, NOT, 4, NOT);
        refused("not SIMPLE-FACED", rowOf(6), x -> x.fresh(CUBE, 1), NOT);
        refused("not SIMPLE-FACED, the row empty", rowOf(0), x -> x.fresh(CUBE, 0), NOT);
        refused("a FACET that it has not, ahead of NOT", rowOf(7), x -> x.fresh(CUBE, 0), UNKNOWN);
        refused("a FACET that it has not, ahead of OUTSIDE", rowOf(9), x -> x.fresh(CROSS, 5), UNKNOWN);
        refused("one more than it has", rowOf(9), x -> x.fresh(CROSS, 0), UNKNOWN);
        taken("all its FACETS", rowOf(8), x -> x.fresh(CROSS, 3), 1);
    }

    // ---- walks

    private static void walk() {
        unknown("walk", (x, i) -> x.walk(i, 0, 0));
        beyond("from", BodyCornersRefusals::some, (x, n) -> x.walk(CUBE, n, 0), 0, 7, UNKNOWN);
        beyond("to", BodyCornersRefusals::some, (x, n) -> x.walk(CUBE, 0, n), 0, 7, UNKNOWN);
        beyond("from, of 16", BodyCornersRefusals::some, (x, n) -> x.walk(CUBE_4, n, 0), 0, 15, UNKNOWN);
        beyond("to, of 16", BodyCornersRefusals::some, (x, n) -> x.walk(CUBE_4, 0, n), 0, 15, UNKNOWN);
        refused("from 32", BodyCornersRefusals::some, x -> x.walk(CUBE, 32, 0), UNKNOWN);
        refused("to 33", BodyCornersRefusals::some, x -> x.walk(CUBE, 0, 33), UNKNOWN);
        taken("to the last", BodyCornersRefusals::some, x -> x.walk(CUBE, 0, 7), 3);
        taken("from the last of 16", BodyCornersRefusals::some, x -> x.walk(CUBE_4, 15, 0), 4);
    }

    private static void far() {
        unknown("far", BodyCorners::far);
    }

    private static void tilt() {
        bounds("t0", (x, n) -> x.tilt(n, 0, 0, 0), -99, 1, 99, 1);
        bounds("t1", (x, n) -> x.tilt(0, n, 0, 0), -99, 1, 99, 1);
        bounds("t2", (x, n) -> x.tilt(0, 0, n, 0), -99, 1, 99, 1);
        bounds("t3", (x, n) -> x.tilt(0, 0, 0, n), -99, 1, 99, 1);
    }

    private static void up() {
        unknown("up", (x, i) -> x.up(i, 0, 0));
        unknown("up, UNKNOWN ahead of OUTSIDE", (x, i) -> x.up(i, 0, 3));
        bounds("what", (x, n) -> x.up(CUBE, 0, n), 0, 7, 2, 6);
        beyond("c", BodyCornersRefusals::some, (x, n) -> x.up(CUBE, n, 0), 0, 7, UNKNOWN);
        beyond("c, ahead of OUTSIDE", BodyCornersRefusals::some, (x, n) -> x.up(CUBE, n, 3), 0, 7, UNKNOWN);
        refused("c 32", BodyCornersRefusals::some, x -> x.up(CUBE, 32, 0), UNKNOWN);
        taken("the last", BodyCornersRefusals::some, x -> x.up(CUBE, 7, 1), 0);
    }

    private static void ups() {
        unknown("ups", (x, i) -> x.ups(i, 0, 0));
        beyond("from", BodyCornersRefusals::some, (x, n) -> x.ups(CUBE, n, 0), 0, 7, UNKNOWN);
        beyond("to", BodyCornersRefusals::some, (x, n) -> x.ups(CUBE, 0, n), 0, 7, UNKNOWN);
        refused("from 32", BodyCornersRefusals::some, x -> x.ups(CUBE, 32, 7), UNKNOWN);
        refused("to 39", BodyCornersRefusals::some, x -> x.ups(CUBE, 0, 39), UNKNOWN);
        taken("to the last", BodyCornersRefusals::some, x -> x.ups(CUBE, 0, 7), 6);
        taken("from the last", BodyCornersRefusals::some, x -> x.ups(CUBE, 7, 0), 0);
    }

    private static void ring() {
        unknown("ring", (x, i) -> x.ring(i, 0));
        unknown("ring, UNKNOWN ahead of OUTSIDE", (x, i) -> x.ring(i, -1));
        for (int k : new int[] {-1, MIN}) {
            refused("k below 0", BodyCornersRefusals::some, x -> x.ring(CUBE, k), OUTSIDE);
            refused("OUTSIDE ahead of LARGE", BodyCornersRefusals::some, x -> x.ring(CUBE_4, k), OUTSIDE);
        }
        taken("k 0", BodyCornersRefusals::some, x -> x.ring(CUBE, 0), 0);
        taken("the last", BodyCornersRefusals::some, x -> x.ring(CUBE, 7), 4);
        taken("not so many", BodyCornersRefusals::some, x -> x.ring(CUBE, 8), NONE);
        taken("not nearly so many", BodyCornersRefusals::some, x -> x.ring(CUBE, MAX), NONE);
        taken("12 CORNERS", text("round 2 of 12;"), x -> x.ring(0, 11), 11);
        taken("12 CORNERS, not so many", text("round 2 of 12;"), x -> x.ring(0, 12), NONE);
        refused("13 CORNERS", text("round 2 of 13;"), x -> x.ring(0, 0), LARGE);
        refused("13 CORNERS, not so many", text("round 2 of 13;"), x -> x.ring(0, 13), LARGE);
        refused("16 CORNERS", BodyCornersRefusals::some, x -> x.ring(CUBE_4, 0), LARGE);
    }

    // ---- places, sizes

    private static void where() {
        unknown("where", BodyCorners::where);
        refused("no POINT", () -> holding(BODIES, 0, 3, 2, 8, 3), x -> x.where(CUBE), NOT);
        refused("UNKNOWN ahead of NOT", () -> holding(BODIES, 0, 3, 2, 8, 3), x -> x.where(BODIES), UNKNOWN);
        taken("one POINT", () -> holding(BODIES, 1, 3, 2, 8, 3), x -> x.where(CUBE), 0);
    }

    private static void parted() {
        unknown("parted", BodyCorners::parted);
        refused("no POINT", () -> holding(BODIES, 0, 3, 2, 8, 3), x -> x.parted(CUBE), NOT);
        refused("UNKNOWN ahead of NOT", () -> holding(BODIES, 0, 3, 2, 8, 3), x -> x.parted(BODIES), UNKNOWN);
        taken("one POINT", () -> holding(BODIES, 1, 3, 2, 8, 3), x -> x.parted(CUBE), NONE);
    }

    private static void holds() {
        unknown("holds, the one", (x, i) -> x.holds(i, CUBE));
        unknown("holds, the other", (x, i) -> x.holds(CUBE, i));
        unknown("holds, the other of unlike D", (x, i) -> x.holds(TRIANGLE, i));
        refused("D 3 and D 2", BodyCornersRefusals::some, x -> x.holds(CUBE, TRIANGLE), OUTSIDE);
        refused("D 2 and D 3", BodyCornersRefusals::some, x -> x.holds(TRIANGLE, CUBE), OUTSIDE);
        refused("D 4 and D 3", BodyCornersRefusals::some, x -> x.holds(CROSS_4, CROSS), OUTSIDE);
        taken("D 3 and D 3", BodyCornersRefusals::some, x -> x.holds(CUBE, CROSS), 3);
    }

    private static void size() {
        unknown("size", BodyCorners::size);
    }

    private static void piece() {
        unknown("piece", (x, i) -> x.piece(i, 0, 0));
        unknown("piece, UNKNOWN ahead of OUTSIDE", (x, i) -> x.piece(i, 0, 2));
        bounds("what", (x, n) -> x.piece(CUBE, 5, n), 0, 209, 1, 1);
        bounds("what, ahead of NONE", (x, n) -> x.piece(CUBE, 6, n), 0, NONE, 1, NONE);
        beyond("j", BodyCornersRefusals::some, (x, n) -> x.piece(CUBE, n, 0), 0, 5, NONE);
        beyond("j, its SIZE", BodyCornersRefusals::some, (x, n) -> x.piece(CUBE, n, 1), 0, 5, NONE);
        taken("the only one", BodyCornersRefusals::some, x -> x.piece(TRIANGLE, 0, 0), 7);
        taken("no second", BodyCornersRefusals::some, x -> x.piece(TRIANGLE, 1, 0), NONE);
    }

    private static void whole() {
        unknown("whole", (x, i) -> x.whole(i, 1, 0));
        unknown("whole, UNKNOWN ahead of OUTSIDE", (x, i) -> x.whole(i, 0, 2));
        bounds("s", (x, n) -> x.whole(CUBE, n, 0), 1, 8, 4, 125);
        bounds("what", (x, n) -> x.whole(CUBE, 2, n), 0, 27, 1, 1);
        State just = one(2, 0, 0, 19, 0, 0, 999, 19, 999);
        taken("20000 places", just, x -> x.whole(0, 1, 0), 20000);
        taken("20000 places, INSIDE", just, x -> x.whole(0, 1, 1), 18 * 998);
        State over = one(3, 0, 0, 0, 2, 0, 0, 0, 58, 0, 0, 0, 112);
        refused("20001 places", over, x -> x.whole(0, 1, 0), LARGE);
        refused("20001 places, INSIDE", over, x -> x.whole(0, 1, 1), LARGE);
        State thin = one(3, -999, -999, -999, 999, 999, 999, 0, 0, 1, 0, 1, 0);
        refused("the box counts, not the BODY", thin, x -> x.whole(0, 1, 0), LARGE);
        refused("OUTSIDE (s) ahead of LARGE", over, x -> x.whole(0, 5, 0), OUTSIDE);
        refused("OUTSIDE (what) ahead of LARGE", over, x -> x.whole(0, 1, 2), OUTSIDE);
        refused("UNKNOWN ahead of LARGE", over, x -> x.whole(1, 1, 0), UNKNOWN);
        State round = one(4, 0, 0, 0, 0, 255, 0, 0, 0, 0, 255, 0, 0, 0, 0, 255, 0, 0, 0, 0, 255);
        refused("256 times 256 times 256 times 256 places", round, x -> x.whole(0, 1, 0), LARGE);
        State tower = one(3, 0, 0, -600, 341, 0, -600, 0, 341, -600, 0, 0, 765);
        refused("1024 times 1024 times 4096 places", tower, x -> x.whole(0, 3, 0), LARGE);
        State all = one(4, -999, -999, -999, -999, 999, 0, 0, 0, 0, 999, 0, 0, 0, 0, 999, 0, 0, 0, 0, 999);
        refused("the greatest box", all, x -> x.whole(0, 4, 1), LARGE);
    }

    // ---- the text, claims

    private static void feed() {
        bounds("n", (x, n) -> x.feed(n, 0), 1, 9, 8, 16);
        State almost = () -> holding(BODIES, 6, 3, 2, 152, 3);
        State more = () -> holding(BODIES, 6, 3, 2, 153, 3);
        State full = () -> holding(BODIES, 6, 3, 2, 160, 3);
        taken("160 bytes", almost, x -> x.feed(8, 0), 160);
        refused("161 bytes", more, x -> x.feed(8, 0), FULL);
        taken("160 bytes by seven", more, x -> x.feed(7, 0), 160);
        refused("a byte more", full, x -> x.feed(1, ' '), FULL);
        refused("eight bytes more", full, x -> x.feed(8, 0), FULL);
        beyond("OUTSIDE ahead of FULL", full, (x, n) -> x.feed(n, 0), 1, 8, OUTSIDE);
    }

    private static void read() {
        due("nothing told", new BodyCorners().read(), 0);
    }

    private static void fault() {
        due("nothing read", new BodyCorners().fault(), NONE);
    }

    private static void claim() {
        for (int held = 0; held <= 8; held++) {
            int claims = held;
            State state = () -> holding(BODIES, 6, 3, 2, 8, claims);
            beyond("of " + held, state, BodyCorners::claim, 0, held - 1, UNKNOWN);
            if (held > 0) {
                unlike("the last of " + held, state.make().claim(held - 1), UNKNOWN);
            }
        }
    }

    /** An object is used for 512 calls: the last of them is answered as the first ones are. */
    private static void lastCall() {
        BodyCorners x = new BodyCorners();
        x.feed(7, 'c' * (1L << 48) + ('u' * (1L << 40)) + ('b' * (1L << 32)) + ('e' << 24) + (' ' << 16) + ('3' << 8) + ';');
        due("the second call", x.read(), 1);
        for (int call = 3; call < 512; call++) {
            due("call " + call, x.about(0, 5), 48);
        }
        due("the 512th call", x.body(2), NOT);
    }

    public static void main(String[] args) {
        Runnable[] promises = {BodyCornersRefusals::lastCall, BodyCornersRefusals::point, BodyCornersRefusals::wipe,
            BodyCornersRefusals::body, BodyCornersRefusals::cut, BodyCornersRefusals::slice,
            BodyCornersRefusals::shadow, BodyCornersRefusals::raise, BodyCornersRefusals::product,
            BodyCornersRefusals::both, BodyCornersRefusals::about, BodyCornersRefusals::corner,
            BodyCornersRefusals::count, BodyCornersRefusals::faces, BodyCornersRefusals::face,
            BodyCornersRefusals::lies, BodyCornersRefusals::h, BodyCornersRefusals::sum, BodyCornersRefusals::same,
            BodyCornersRefusals::inside, BodyCornersRefusals::pattern, BodyCornersRefusals::set,
            BodyCornersRefusals::place, BodyCornersRefusals::row, BodyCornersRefusals::clear,
            BodyCornersRefusals::meets, BodyCornersRefusals::fresh, BodyCornersRefusals::walk,
            BodyCornersRefusals::far, BodyCornersRefusals::tilt, BodyCornersRefusals::up, BodyCornersRefusals::ups,
            BodyCornersRefusals::ring, BodyCornersRefusals::where, BodyCornersRefusals::parted,
            BodyCornersRefusals::holds, BodyCornersRefusals::size, BodyCornersRefusals::piece,
            BodyCornersRefusals::whole, BodyCornersRefusals::feed, BodyCornersRefusals::read,
            BodyCornersRefusals::fault, BodyCornersRefusals::claim};
        for (Runnable test : promises) {
            promise++;
            test.run();
        }
        System.out.println(passed + " passed, " + failed + " failed");
        if (failed != 0) {
            System.exit(1);
        }
    }
}

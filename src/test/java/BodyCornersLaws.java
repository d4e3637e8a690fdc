import com.sun.management.ThreadMXBean;
import java.lang.management.ManagementFactory;
import java.util.Random;

/** Laws that hold of any body, tried on many made-up ones; wild arguments; and how much room the calls take. */
public final class BodyCornersLaws {
    private static int passed = 0;
    private static int failed = 0;

    private static void due(String what, long got, long want) {
        if (got == want) {
            passed++;
        } else {
            failed++;
            if (failed <= 20) {
                System.out.println(what + ": " + got + ", due is " + want);
            }
        }
    }

    private static int sign(int k) {
        return k % 2 == 0 ? 1 : -1;
    }

    private static long over(int n, int m) {
        long ways = 1;
        for (int k = 1; k <= m; k++) {
            ways = ways * (n - m + k) / k;
        }
        return ways;
    }

    /** A body told by its corners, number 0 on an object that is made anew long before its 512 calls are used up. */
    private static final class Told {
        final int d;
        final int[] numbers;
        private BodyCorners x;
        private int calls;

        Told(int d, int[] numbers) {
            this.d = d;
            this.numbers = numbers;
        }

        /** The object for one call more. */
        BodyCorners x() {
            if (x == null || calls >= 400) {
                x = new BodyCorners();
                calls = 0;
                tell(x, this);
                due("a body of the tests", x.body(d), 0);
            }
            calls++;
            return x;
        }

        int corners() {
            return numbers.length / d;
        }
    }

    private static void tell(BodyCorners x, Told told) {
        for (int c = 0; c < told.corners(); c++) {
            tellOne(x, told, c);
        }
    }

    private static void tellOne(BodyCorners x, Told told, int c) {
        int at = c * told.d;
        x.point(told.numbers[at], told.numbers[at + 1], told.d > 2 ? told.numbers[at + 2] : 0,
                told.d > 3 ? told.numbers[at + 3] : 0);
    }

    /** The corners of a body. */
    private static Told cornersOf(BodyCorners x, int i) {
        int d = x.about(i, 0);
        int[] numbers = new int[x.about(i, 1) * d];
        for (int at = 0; at < numbers.length; at++) {
            numbers[at] = x.corner(i, at / d, at % d);
        }
        return new Told(d, numbers);
    }

    /** Up to 16 points within the reach; points that are flat are tried again. */
    private static Told makeSome(Random random, int d, int points, int reach) {
        for (int tries = 0; tries < 100; tries++) {
            BodyCorners x = new BodyCorners();
            for (int p = 0; p < points; p++) {
                x.point(pick(random, reach), pick(random, reach), pick(random, reach), pick(random, reach));
            }
            if (x.body(d) >= 0) {
                return cornersOf(x, 0);
            }
        }
        throw new IllegalStateException("no body was found");
    }

    private static int pick(Random random, int reach) {
        return random.nextInt(2 * reach + 1) - reach;
    }

    private static void countLaws(Told t, String name) {
        int d = t.d;
        due(name + " sum", t.x().sum(0), 1 - sign(d));
        due(name + " corners", t.x().faces(0, 0), t.corners());
        int ridges = t.x().faces(0, d - 2);
        for (int j = 0; j < ridges; j++) {
            due(name + " a ridge is in two facets", t.x().lies(0, d - 2, j, d - 1), 2);
        }
        int edges = t.x().faces(0, 1);
        for (int j = 0; j < edges; j++) {
            due(name + " an edge has two corners", t.x().lies(0, 1, j, 0), 2);
        }
        for (int k = 0; k < d; k++) {
            int last = 0;
            int cells = t.x().faces(0, k);
            for (int j = 0; j < cells; j++) {
                int set = t.x().face(0, k, j);
                due(name + " cells by their sets", set > last ? 1 : 0, 1);
                last = set;
            }
        }
        if (t.x().about(0, 3) == 1) {
            int all = 0;
            for (int k = 0; k <= d; k++) {
                due(name + " h both ways", t.x().h(0, k), t.x().h(0, d - k));
                all += t.x().h(0, k);
            }
            due(name + " h in all", all, t.x().faces(0, d - 1));
        }
    }

    /** What is on the one side of a cut and what is on the other are all of it. */
    private static void cutLaws(Told t, Random random, String name) {
        BodyCorners x = new BodyCorners();
        tell(x, t);
        x.body(t.d);
        int[] a = new int[4];
        for (int k = 0; k < 4; k++) {
            a[k] = random.nextInt(5) - 2;
        }
        a[0] = a[0] == 0 ? 1 : a[0];
        int b = random.nextInt(7) - 3;
        int low = x.cut(0, a[0], a[1], a[2], a[3], b);
        int high = x.cut(0, -a[0], -a[1], -a[2], -a[3], -b);
        if (low >= 0 && high >= 0) {
            long lowScale = power(x.about(low, 2), t.d);
            long highScale = power(x.about(high, 2), t.d);
            due(name + " cut in two", x.size(low) * highScale + x.size(high) * lowScale, x.size(0) * lowScale * highScale);
            countLaws(cornersOf(x, low), name + " its lower part");
        }
        if (low == BodyCorners.NOT && high >= 0) {
            due(name + " all is above", x.size(high), x.size(0));
        }
    }

    private static long power(long base, int exponent) {
        long product = 1;
        for (int k = 0; k < exponent; k++) {
            product *= base;
        }
        return product;
    }

    /** Whole places of a body stretched by s are a polynomial in s; its first number is the size, turned it is the inside. */
    private static void wholeLaws(Told t, String name) {
        int d = t.d;
        long[] at = new long[d + 1];
        at[0] = 1;
        for (int s = 1; s <= d; s++) {
            at[s] = t.x().whole(0, s, 0);
            if (at[s] < 0) {
                return;
            }
        }
        long difference = 0;
        long before = 0;
        for (int s = 0; s <= d; s++) {
            difference += sign(d - s) * over(d, s) * at[s];
            before += sign(s) * over(d + 1, s + 1) * at[s];
        }
        due(name + " size by whole places", difference, t.x().size(0));
        due(name + " inside by whole places", t.x().whole(0, 1, 1), sign(d) * before);
    }

    /** All renamings tried one by one. */
    private static long turnsByTrying(int[] facets, int[] names, int depth, int used) {
        if (depth == names.length) {
            for (int facet : facets) {
                int image = 0;
                for (int c = 0; c < names.length; c++) {
                    image |= (facet >> c & 1) << names[c];
                }
                boolean found = false;
                for (int other : facets) {
                    found |= other == image;
                }
                if (!found) {
                    return 0;
                }
            }
            return 1;
        }
        long all = 0;
        for (int name = 0; name < names.length; name++) {
            if ((used >> name & 1) == 0) {
                names[depth] = name;
                all += turnsByTrying(facets, names, depth + 1, used | 1 << name);
            }
        }
        return all;
    }

    private static void turnLaws(Told t, Random random, String name) {
        int n = t.corners();
        int[] facets = new int[t.x().faces(0, t.d - 1)];
        for (int f = 0; f < facets.length; f++) {
            facets[f] = t.x().face(0, t.d - 1, f);
        }
        if (n <= 7) {
            due(name + " turns", t.x().about(0, 5), turnsByTrying(facets, new int[n], 0, 0));
        }
        int[] order = new int[n];
        for (int c = 0; c < n; c++) {
            int to = random.nextInt(c + 1);
            order[c] = order[to];
            order[to] = c;
        }
        int[] turned = new int[n * t.d];
        for (int at = 0; at < turned.length; at++) {
            int number = t.numbers[order[at / t.d] * t.d + at % t.d];
            turned[at] = at % t.d == 1 ? -number : number;
        }
        BodyCorners x = new BodyCorners();
        tell(x, t);
        x.body(t.d);
        tell(x, new Told(t.d, turned));
        int mirrored = x.body(t.d);
        due(name + " its mirror image", x.same(0, mirrored), 1);
        due(name + " its size", x.size(mirrored), x.size(0));
        due(name + " its turns", x.about(mirrored, 5), x.about(0, 5));
    }

    private static void placeLaws(Told t, String name) {
        for (int c = 0; c < t.corners(); c++) {
            BodyCorners x = t.x();
            x.wipe();
            tellOne(x, t, c);
            due(name + " a corner", x.where(0), 0);
            due(name + " not parted", x.parted(0), BodyCorners.NONE);
        }
        due(name + " holds itself", t.x().holds(0, 0), t.corners());
        long all = 0;
        int pieces = t.x().about(0, 6);
        for (int p = 0; p < pieces; p++) {
            due(name + " corners of a piece", Long.bitCount(t.x().piece(0, p, 0)), t.d + 1);
            all += t.x().piece(0, p, 1);
        }
        due(name + " pieces in all", all, t.x().size(0));
    }

    private static void someBodies() {
        Random random = new Random(20261118);
        for (int round = 0; round < 150; round++) {
            int d = 2 + round % 3;
            int points = d + 1 + random.nextInt(round % 5 == 0 ? 16 - d : 6);
            int reach = round % 4 == 0 ? 1 : round % 4 == 1 ? 3 : round % 4 == 2 ? 6 : 999;
            Told t = makeSome(random, d, points, reach);
            String name = "body " + round;
            countLaws(t, name);
            wholeLaws(t, name);
            turnLaws(t, random, name);
            placeLaws(t, name);
            cutLaws(t, random, name);
            BodyCorners x = new BodyCorners();
            tell(x, t);
            x.body(d);
            int raised = x.raise(0, round % 3, 1 + random.nextInt(3));
            if (raised >= 0) {
                Told r = cornersOf(x, raised);
                countLaws(r, name + " raised");
                placeLaws(r, name + " raised");
            }
        }
    }

    /** Sixteen points as round as can be have all the cells that there can be. */
    private static Told roundest() {
        int[] numbers = new int[64];
        for (int p = 0; p < 16; p++) {
            double t = Math.PI * ((5 * p) % 16) / 8;
            numbers[4 * p] = (int) Math.rint(999 * Math.cos(t));
            numbers[4 * p + 1] = (int) Math.rint(999 * Math.sin(t));
            numbers[4 * p + 2] = (int) Math.rint(999 * Math.cos(2 * t));
            numbers[4 * p + 3] = (int) Math.rint(999 * Math.sin(2 * t));
        }
        return new Told(4, numbers);
    }

    private static void mostCells() {
        Told t = roundest();
        int[] want = {16, 120, 208, 104};
        for (int k = 0; k < 4; k++) {
            due("most cells of " + k, t.x().faces(0, k), want[k]);
        }
        due("turns of the roundest", t.x().about(0, 5), 32);
        countLaws(t, "roundest");
        placeLaws(t, "roundest");
    }

    private static int wild(Random random) {
        int[] edges = {Integer.MIN_VALUE, Integer.MAX_VALUE, -1, 0, 1, 2, 3, 4, 5, 24, 25, 999, 1000, -999, -1000};
        return random.nextInt(3) == 0 ? edges[random.nextInt(edges.length)] : random.nextInt(12) - 2;
    }

    private static void wildCall(BodyCorners x, Random r, int which) {
        int a = wild(r);
        int b = wild(r);
        int c = wild(r);
        int e = wild(r);
        switch (which) {
            case 0: x.point(a, b, c, e); break;
            case 1: x.wipe(); break;
            case 2: x.body(a); break;
            case 3: x.cut(a, b, c, e, wild(r), wild(r)); break;
            case 4: x.slice(a, b, c); break;
            case 5: x.shadow(a, b); break;
            case 6: x.raise(a, b, c); break;
            case 7: x.product(a, b); break;
            case 8: x.both(a, b); break;
            case 9: x.about(a, b); break;
            case 10: x.corner(a, b, c); break;
            case 11: x.count(a); break;
            case 12: x.faces(a, b); break;
            case 13: x.face(a, b, c); break;
            case 14: x.lies(a, b, c, e); break;
            case 15: x.h(a, b); break;
            case 16: x.sum(a); break;
            case 17: x.same(a, b); break;
            case 18: x.inside(a, b); break;
            case 19: x.pattern(a); break;
            case 20: x.set(r.nextBoolean() ? a : r.nextInt(64)); break;
            case 21: x.place(a); break;
            case 22: x.row(a); break;
            case 23: x.clear(); break;
            case 24: x.meets(a); break;
            case 25: x.fresh(a, b); break;
            case 26: x.walk(a, b, c); break;
            case 27: x.far(a); break;
            case 28: x.tilt(a, b, c, e); break;
            case 29: x.up(a, b, c); break;
            case 30: x.ups(a, b, c); break;
            case 31: x.ring(a, b); break;
            case 32: x.where(a); break;
            case 33: x.parted(a); break;
            case 34: x.holds(a, b); break;
            case 35: x.size(a); break;
            case 36: x.piece(a, b, c); break;
            case 37: x.whole(a, b, c); break;
            case 38: x.feed(a, r.nextLong()); break;
            case 39: x.read(); break;
            case 40: x.fault(); break;
            default: x.claim(a); break;
        }
    }

    private static void feedWord(BodyCorners x, Random random) {
        String[] words = {"cube ", "cross 3;", "round 3", " of 9;", "corner4;", "claim ", "all ", "faces 1", "<9;", ";", "77"};
        String word = words[random.nextInt(words.length)];
        long packed = 0;
        for (char sign : word.toCharArray()) {
            packed = packed << 8 | sign;
        }
        x.feed(word.length(), packed);
    }

    private static void wildCalls() {
        Random random = new Random(7);
        for (int run = 0; run < 400; run++) {
            BodyCorners x = new BodyCorners();
            Told t = makeSome(random, 2 + run % 3, 5 + run % 9, 9);
            tell(x, t);
            x.body(t.d);
            for (int call = 0; call < 400; call++) {
                if (call % 6 == 0) {
                    feedWord(x, random);
                }
                wildCall(x, random, random.nextInt(42));
            }
            due("bodies are 24 at most", x.count(0) <= 24 ? 1 : 0, 1);
        }
    }

    /** Calls that only ask make nothing: the room of a run is small. */
    private static void room() {
        ThreadMXBean machine = (ThreadMXBean) ManagementFactory.getThreadMXBean();
        long thread = Thread.currentThread().getId();
        BodyCorners x = roundest().x();
        for (int round = 0; round < 2; round++) {
            long before = machine.getThreadAllocatedBytes(thread);
            for (int call = 0; call < 20; call++) {
                x.about(0, 5);
                x.about(0, 6);
                x.same(0, 0);
                x.inside(0, 0);
                x.size(0);
                x.far(0);
                x.ups(0, 0, 9);
                x.ring(0, 3);
                x.whole(0, 1, 0);
                x.meets(0);
                x.holds(0, 0);
                x.read();
            }
            long made = machine.getThreadAllocatedBytes(thread) - before;
            due("bytes made by asking again: " + made, round == 0 || made < 2000 ? 1 : 0, 1);
        }
    }

    public static void main(String[] args) {
        someBodies();
        mostCells();
        wildCalls();
        room();
        System.out.println(passed + " passed, " + failed + " failed");
        if (failed != 0) {
            System.exit(1);
        }
    }
}

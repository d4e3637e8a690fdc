import com.sun.management.ThreadMXBean;
import java.lang.management.ManagementFactory;
import java.util.Random;

/** Laws that hold of any body, tried on many made-up ones; wild arguments; and how much room the calls take. */
public final class BodyCornersLaws {
    private static int passed = 0;
    private static int failed = 0;

    private static void due(String what, long got, long want) {
        if (got == want) {
            passed++;
        } else {
            failed++;
            if (failed <= 20) {
                System.out.println(what + ": " + got + ", due is " + want);
            }
        }
    }

    private static int sign(int k) {
        return k % 2 == 0 ? 1 : -1;
    }

    private static long over(int n, int m) {
        long ways = 1;
        for (int k = 1; k <= m; k++) {
            ways = ways * (n - m + k) / k;
        }
        return ways;
    }

    /** Up to 16 points within the reach; NOT bodies are tried again. */
    private static int makeSome(BodyCorners x, Random random, int d, int points, int reach) {
        int made = BodyCorners.NOT;
        for (int tries = 0; tries < 100 && made < 0; tries++) {
            x.wipe();
            for (int p = 0; p < points; p++) {
                x.point(pick(random, reach), pick(random, reach), pick(random, reach), pick(random, reach));
            }
            made = x.body(d);
        }
        return made;
    }

    private static int pick(Random random, int reach) {
        return random.nextInt(2 * reach + 1) - reach;
    }

    private static void countLaws(BodyCorners x, int i, String name) {
        int d = x.about(i, 0);
        due(name + " sum", x.sum(i), 1 - sign(d));
        due(name + " corners", x.faces(i, 0), x.about(i, 1));
        for (int j = 0; j < x.faces(i, d - 2); j++) {
            due(name + " a ridge is in two facets", x.lies(i, d - 2, j, d - 1), 2);
        }
        for (int j = 0; j < x.faces(i, 1); j++) {
            due(name + " an edge has two corners", x.lies(i, 1, j, 0), 2);
        }
        for (int k = 0; k < d; k++) {
            int last = 0;
            for (int j = 0; j < x.faces(i, k); j++) {
                due(name + " cells by their sets", x.face(i, k, j) > last ? 1 : 0, 1);
                last = x.face(i, k, j);
            }
        }
        if (x.about(i, 3) == 1) {
            int all = 0;
            for (int k = 0; k <= d; k++) {
                due(name + " h both ways", x.h(i, k), x.h(i, d - k));
                all += x.h(i, k);
            }
            due(name + " h in all", all, x.faces(i, d - 1));
        }
    }

    /** What is on the one side of a cut and what is on the other are all of it. */
    private static void cutLaws(BodyCorners x, int i, Random random, String name) {
        int d = x.about(i, 0);
        int[] a = new int[4];
        for (int k = 0; k < 4; k++) {
            a[k] = random.nextInt(5) - 2;
        }
        a[0] = a[0] == 0 ? 1 : a[0];
        int b = random.nextInt(7) - 3;
        int low = x.cut(i, a[0], a[1], a[2], a[3], b);
        int high = x.cut(i, -a[0], -a[1], -a[2], -a[3], -b);
        if (low >= 0 && high >= 0) {
            long lowScale = power(x.about(low, 2), d);
            long highScale = power(x.about(high, 2), d);
            due(name + " cut in two", x.size(low) * highScale + x.size(high) * lowScale, x.size(i) * lowScale * highScale);
            countLaws(x, low, name + " its lower part");
        }
        if (low == BodyCorners.NOT && high >= 0) {
            due(name + " all is above", x.size(high), x.size(i));
        }
    }

    private static long power(long base, int exponent) {
        long product = 1;
        for (int k = 0; k < exponent; k++) {
            product *= base;
        }
        return product;
    }

    /** Whole places of a body stretched by s are a polynomial in s; its first number is the size, turned it is the inside. */
    private static void wholeLaws(BodyCorners x, int i, String name) {
        int d = x.about(i, 0);
        long[] at = new long[d + 1];
        at[0] = 1;
        for (int s = 1; s <= d; s++) {
            at[s] = x.whole(i, s, 0);
            if (at[s] < 0) {
                return;
            }
        }
        long difference = 0;
        long before = 0;
        for (int s = 0; s <= d; s++) {
            difference += sign(d - s) * over(d, s) * at[s];
            before += sign(s) * over(d + 1, s + 1) * at[s];
        }
        due(name + " size by whole places", difference, x.size(i));
        due(name + " inside by whole places", x.whole(i, 1, 1), sign(d) * before);
    }

    /** All renamings tried one by one. */
    private static long turnsByTrying(int[] facets, int[] names, int depth, int used) {
        if (depth == names.length) {
            for (int facet : facets) {
                int image = 0;
                for (int c = 0; c < names.length; c++) {
                    image |= (facet >> c & 1) << names[c];
                }
                boolean found = false;
                for (int other : facets) {
                    found |= other == image;
                }
                if (!found) {
                    return 0;
                }
            }
            return 1;
        }
        long all = 0;
        for (int name = 0; name < names.length; name++) {
            if ((used >> name & 1) == 0) {
                names[depth] = name;
                all += turnsByTrying(facets, names, depth + 1, used | 1 << name);
            }
        }
        return all;
    }

    private static void turnLaws(BodyCorners x, int i, Random random, String name) {
        int d = x.about(i, 0);
        int n = x.about(i, 1);
        int[] facets = new int[x.faces(i, d - 1)];
        for (int f = 0; f < facets.length; f++) {
            facets[f] = x.face(i, d - 1, f);
        }
        if (n <= 7) {
            due(name + " turns", x.about(i, 5), turnsByTrying(facets, new int[n], 0, 0));
        }
        int[] order = new int[n];
        for (int c = 0; c < n; c++) {
            int to = random.nextInt(c + 1);
            order[c] = order[to];
            order[to] = c;
        }
        x.wipe();
        for (int c : order) {
            x.point(x.corner(i, c, 0), -x.corner(i, c, 1), d > 2 ? x.corner(i, c, 2) : 0, d > 3 ? x.corner(i, c, 3) : 0);
        }
        int mirrored = x.body(d);
        due(name + " its mirror image", x.same(i, mirrored), 1);
        due(name + " its size", x.size(mirrored), x.size(i));
        due(name + " its turns", x.about(mirrored, 5), x.about(i, 5));
    }

    private static void placeLaws(BodyCorners x, int i, String name) {
        int d = x.about(i, 0);
        x.wipe();
        for (int c = 0; c < x.about(i, 1); c++) {
            x.wipe();
            x.point(x.corner(i, c, 0), x.corner(i, c, 1), d > 2 ? x.corner(i, c, 2) : 0, d > 3 ? x.corner(i, c, 3) : 0);
            due(name + " a corner", x.where(i), 0);
            due(name + " not parted", x.parted(i), BodyCorners.NONE);
        }
        due(name + " holds itself", x.holds(i, i), x.about(i, 1));
        long all = 0;
        int pieces = x.about(i, 6);
        for (int p = 0; p < pieces; p++) {
            due(name + " corners of a piece", Long.bitCount(x.piece(i, p, 0)), d + 1);
            all += x.piece(i, p, 1);
        }
        due(name + " pieces in all", all, x.size(i));
    }

    private static void someBodies() {
        Random random = new Random(20261118);
        for (int round = 0; round < 150; round++) {
            BodyCorners x = new BodyCorners();
            int d = 2 + round % 3;
            int points = d + 1 + random.nextInt(round % 5 == 0 ? 16 - d : 6);
            int reach = round % 4 == 0 ? 1 : round % 4 == 1 ? 3 : round % 4 == 2 ? 6 : 999;
            int i = makeSome(x, random, d, points, reach);
            String name = "body " + round;
            due(name, i, 0);
            countLaws(x, i, name);
            wholeLaws(x, i, name);
            turnLaws(x, i, random, name);
            placeLaws(x, i, name);
            cutLaws(x, i, random, name);
            int raised = x.raise(i, round % 3, 1 + random.nextInt(3));
            if (raised >= 0) {
                countLaws(x, raised, name + " raised");
                placeLaws(x, raised, name + " raised");
            }
        }
    }

    /** Sixteen points as round as can be have all the cells that there can be. */
    private static BodyCorners roundest() {
        BodyCorners x = new BodyCorners();
        for (int p = 0; p < 16; p++) {
            double t = Math.PI * ((5 * p) % 16) / 8;
            x.point((int) Math.rint(999 * Math.cos(t)), (int) Math.rint(999 * Math.sin(t)),
                    (int) Math.rint(999 * Math.cos(2 * t)), (int) Math.rint(999 * Math.sin(2 * t)));
        }
        x.body(4);
        return x;
    }

    private static void mostCells() {
        BodyCorners x = roundest();
        int[] want = {16, 120, 208, 104};
        for (int k = 0; k < 4; k++) {
            due("most cells of " + k, x.faces(0, k), want[k]);
        }
        due("turns of the roundest", x.about(0, 5), 32);
        countLaws(x, 0, "roundest");
        placeLaws(x, 0, "roundest");
    }

    private static int wild(Random random) {
        int[] edges = {Integer.MIN_VALUE, Integer.MAX_VALUE, -1, 0, 1, 2, 3, 4, 5, 24, 25, 999, 1000, -999, -1000};
        return random.nextInt(3) == 0 ? edges[random.nextInt(edges.length)] : random.nextInt(12) - 2;
    }

    private static void wildCall(BodyCorners x, Random r, int which) {
        int a = wild(r);
        int b = wild(r);
        int c = wild(r);
        int e = wild(r);
        switch (which) {
            case 0: x.point(a, b, c, e); break;
            case 1: x.wipe(); break;
            case 2: x.body(a); break;
            case 3: x.cut(a, b, c, e, wild(r), wild(r)); break;
            case 4: x.slice(a, b, c); break;
            case 5: x.shadow(a, b); break;
            case 6: x.raise(a, b, c); break;
            case 7: x.product(a, b); break;
            case 8: x.both(a, b); break;
            case 9: x.about(a, b); break;
            case 10: x.corner(a, b, c); break;
            case 11: x.count(a); break;
            case 12: x.faces(a, b); break;
            case 13: x.face(a, b, c); break;
            case 14: x.lies(a, b, c, e); break;
            case 15: x.h(a, b); break;
            case 16: x.sum(a); break;
            case 17: x.same(a, b); break;
            case 18: x.inside(a, b); break;
            case 19: x.pattern(a); break;
            case 20: x.set(r.nextBoolean() ? a : r.nextInt(64)); break;
            case 21: x.place(a); break;
            case 22: x.row(a); break;
            case 23: x.clear(); break;
            case 24: x.meets(a); break;
            case 25: x.fresh(a, b); break;
            case 26: x.walk(a, b, c); break;
            case 27: x.far(a); break;
            case 28: x.tilt(a, b, c, e); break;
            case 29: x.up(a, b, c); break;
            case 30: x.ups(a, b, c); break;
            case 31: x.ring(a, b); break;
            case 32: x.where(a); break;
            case 33: x.parted(a); break;
            case 34: x.holds(a, b); break;
            case 35: x.size(a); break;
            case 36: x.piece(a, b, c); break;
            case 37: x.whole(a, b, c); break;
            case 38: x.feed(a, r.nextLong()); break;
            case 39: x.read(); break;
            case 40: x.fault(); break;
            default: x.claim(a); break;
        }
    }

    private static void feedWord(BodyCorners x, Random random) {
        String[] words = {"cube ", "cross 3;", "round 3", " of 9;", "corner 4;", "claim ", "all ", "faces 1", "<9;", ";", "77"};
        for (char sign : words[random.nextInt(words.length)].toCharArray()) {
            x.feed(1, sign);
        }
    }

    private static void wildCalls() {
        Random random = new Random(7);
        for (int run = 0; run < 400; run++) {
            BodyCorners x = new BodyCorners();
            makeSome(x, random, 2 + run % 3, 5 + run % 9, 9);
            for (int call = 0; call < 500; call++) {
                if (random.nextInt(6) == 0) {
                    feedWord(x, random);
                }
                wildCall(x, random, random.nextInt(42));
            }
            due("bodies are 24 at most", x.count(0) <= 24 ? 1 : 0, 1);
        }
    }

    /** Calls that only ask make nothing: the room of a run is small. */
    private static void room() {
        ThreadMXBean machine = (ThreadMXBean) ManagementFactory.getThreadMXBean();
        long thread = Thread.currentThread().getId();
        BodyCorners x = roundest();
        x.product(0, 0);
        for (int round = 0; round < 2; round++) {
            long before = machine.getThreadAllocatedBytes(thread);
            for (int call = 0; call < 50; call++) {
                x.about(0, 5);
                x.about(0, 6);
                x.same(0, 0);
                x.inside(0, 0);
                x.size(0);
                x.far(0);
                x.ups(0, 0, 9);
                x.ring(0, 3);
                x.whole(0, 1, 0);
                x.meets(0);
                x.holds(0, 0);
                x.read();
            }
            long made = machine.getThreadAllocatedBytes(thread) - before;
            due("bytes made by asking again: " + made, round == 0 || made < 2000 ? 1 : 0, 1);
        }
    }

    public static void main(String[] args) {
        someBodies();
        mostCells();
        wildCalls();
        room();
        System.out.println(passed + " passed, " + failed + " failed");
        if (failed != 0) {
            System.exit(1);
        }
    }
}

import java.math.BigInteger;
import java.util.ArrayDeque;
import java.util.ArrayList;
import java.util.Arrays;
import java.util.Collections;
import java.util.Deque;
import java.util.HashMap;
import java.util.HashSet;
import java.util.List;
import java.util.Map;
import java.util.Random;
import java.util.Set;
import java.util.TreeMap;
import java.util.TreeSet;

/**
 * A second program, written from the document by other means than the class, answers the same calls on made-up bodies:
 * CORNERS by how many planes meet there, CELLS as all that FACETS have in common, renamings by FLAGS (a CORNER in an
 * EDGE in .. a FACET: a renaming is told by where it takes one), WHOLE places one by one, RINGS and WALKS UP by trying.
 */
public final class BodyCornersSecond {
    private static final int OBJECTS = 60;
    private static final int CALLS_MAX = 512;
    private static final int BODY_MAX = 24;
    private static final int POINT_MAX = 16;
    private static final int NONE = BodyCorners.NONE;
    private static final int OUTSIDE = BodyCorners.OUTSIDE;
    private static final int NOT = BodyCorners.NOT;
    private static final int FULL = BodyCorners.FULL;
    private static final int LARGE = BodyCorners.LARGE;

    private static long passed = 0;
    private static long failed = 0;

    private static void due(String what, long got, long want) {
        if (got == want) {
            passed++;
            return;
        }
        failed++;
        if (failed < 40) {
            System.out.println(what + " answered " + got + ", due is " + want);
        }
    }

    private static int sign(int k) {
        return k % 2 == 0 ? 1 : -1;
    }

    private static boolean has(int set, int member) {
        return (set >> member & 1) != 0;
    }

    private static boolean lies(int inner, int outer) {
        return (inner & ~outer) == 0;
    }

    // ---- exact numbers

    private static int rank(List<BigInteger[]> given, int width) {
        List<BigInteger[]> rows = new ArrayList<>();
        for (BigInteger[] row : given) {
            rows.add(row.clone());
        }
        int rank = 0;
        for (int column = 0; column < width && rank < rows.size(); column++) {
            int pivot = rank;
            while (pivot < rows.size() && rows.get(pivot)[column].signum() == 0) {
                pivot++;
            }
            if (pivot == rows.size()) {
                continue;
            }
            Collections.swap(rows, rank, pivot);
            for (int row = rank + 1; row < rows.size(); row++) {
                clearColumn(rows.get(row), rows.get(rank), column);
            }
            rank++;
        }
        return rank;
    }

    private static void clearColumn(BigInteger[] row, BigInteger[] pivot, int column) {
        BigInteger factor = row[column];
        for (int k = 0; k < row.length; k++) {
            row[k] = row[k].multiply(pivot[column]).subtract(pivot[k].multiply(factor));
        }
    }

    /** In how many dimensions the places lie. */
    private static int spread(List<BigInteger[]> places, int width) {
        List<BigInteger[]> rows = new ArrayList<>();
        for (int p = 1; p < places.size(); p++) {
            BigInteger[] row = new BigInteger[width];
            for (int k = 0; k < width; k++) {
                row[k] = places.get(p)[k].subtract(places.get(0)[k]);
            }
            rows.add(row);
        }
        return rank(rows, width);
    }

    private static BigInteger[] big(long[] numbers, int width) {
        BigInteger[] out = new BigInteger[width];
        for (int k = 0; k < width; k++) {
            out[k] = BigInteger.valueOf(numbers[k]);
        }
        return out;
    }

    private static long determinant(long[][] rows) {
        if (rows.length == 0) {
            return 1;
        }
        long sum = 0;
        for (int column = 0; column < rows.length; column++) {
            sum += sign(column) * rows[0][column] * determinant(without(rows, 1, column));
        }
        return sum;
    }

    private static long[][] without(long[][] rows, int firstRow, int column) {
        long[][] out = new long[rows.length - firstRow][];
        for (int row = firstRow; row < rows.length; row++) {
            out[row - firstRow] = dropped(rows[row], column);
        }
        return out;
    }

    private static long[] dropped(long[] numbers, int which) {
        long[] out = new long[numbers.length - 1];
        for (int k = 0; k < out.length; k++) {
            out[k] = numbers[k < which ? k : k + 1];
        }
        return out;
    }

    private static long[] minus(long[] one, long[] other) {
        long[] out = new long[one.length];
        for (int k = 0; k < out.length; k++) {
            out[k] = one[k] - other[k];
        }
        return out;
    }

    // ---- bodies

    private static final class Shape {
        final int dim;
        long scale = 1;
        long[][] corners;
        int[][] cells;
        /** Of each FACET the numbers of its plane, then where it is; the body is below. */
        final Map<Integer, long[]> planes = new HashMap<>();
        List<Integer> pieces;
        private int[][] flagSteps;

        private Shape(int dim) {
            this.dim = dim;
        }

        /** Null, if the points are flat. */
        static Shape of(List<long[]> told, int dim) {
            long[][] points = distinct(told, dim);
            List<BigInteger[]> places = new ArrayList<>();
            for (long[] point : points) {
                places.add(big(point, dim));
            }
            if (spread(places, dim) < dim) {
                return null;
            }
            Shape shape = new Shape(dim);
            Map<Integer, long[]> found = new TreeMap<>();
            collectFacets(points, dim, 0, 0, found);
            int kept = shape.keepCorners(points, found);
            shape.keepCells(points.length, kept, found);
            return shape;
        }

        private static long[][] distinct(List<long[]> told, int dim) {
            Map<String, long[]> seen = new HashMap<>();
            List<long[]> out = new ArrayList<>();
            for (long[] point : told) {
                long[] own = Arrays.copyOf(point, dim);
                if (seen.put(Arrays.toString(own), own) == null) {
                    out.add(own);
                }
            }
            return out.toArray(new long[0][]);
        }

        private static void collectFacets(long[][] points, int dim, int from, int chosen, Map<Integer, long[]> found) {
            if (Integer.bitCount(chosen) == dim) {
                long[] plane = planeThrough(points, chosen, dim);
                int on = plane == null ? 0 : sideOf(points, plane, dim);
                if (on != 0) {
                    found.put(on, plane);
                }
                return;
            }
            for (int p = from; p < points.length; p++) {
                collectFacets(points, dim, p + 1, chosen | 1 << p, found);
            }
        }

        private static long[] planeThrough(long[][] points, int chosen, int dim) {
            long[] base = points[Integer.numberOfTrailingZeros(chosen)];
            long[][] rows = new long[dim - 1][];
            int next = 0;
            for (int p = 0; p < points.length; p++) {
                if (has(chosen, p) && points[p] != base) {
                    rows[next] = minus(points[p], base);
                    next++;
                }
            }
            long[] plane = new long[dim + 1];
            boolean some = false;
            for (int k = 0; k < dim; k++) {
                plane[k] = sign(k) * determinant(without(rows, 0, k));
                plane[dim] += plane[k] * base[k];
                some |= plane[k] != 0;
            }
            return some ? plane : null;
        }

        static long level(long[] plane, long[] place, int dim, long times) {
            long sum = -plane[dim] * times;
            for (int k = 0; k < dim; k++) {
                sum += plane[k] * place[k];
            }
            return sum;
        }

        /** The points on the plane, which is turned so that all others are below; 0, if they are on both sides. */
        private static int sideOf(long[][] points, long[] plane, int dim) {
            int on = 0;
            int below = 0;
            int above = 0;
            for (int p = 0; p < points.length; p++) {
                long level = level(plane, points[p], dim, 1);
                on |= level == 0 ? 1 << p : 0;
                below += level < 0 ? 1 : 0;
                above += level > 0 ? 1 : 0;
            }
            for (int k = 0; k <= dim && above > 0; k++) {
                plane[k] = -plane[k];
            }
            return below > 0 && above > 0 ? 0 : on;
        }

        /** A point is a CORNER, if the planes of FACETS through it have it alone in common. */
        private int keepCorners(long[][] points, Map<Integer, long[]> found) {
            int kept = 0;
            List<long[]> places = new ArrayList<>();
            for (int p = 0; p < points.length; p++) {
                List<BigInteger[]> through = new ArrayList<>();
                for (Map.Entry<Integer, long[]> facet : found.entrySet()) {
                    if (has(facet.getKey(), p)) {
                        through.add(big(facet.getValue(), dim));
                    }
                }
                if (rank(through, dim) == dim) {
                    kept |= 1 << p;
                    places.add(points[p]);
                }
            }
            corners = places.toArray(new long[0][]);
            return kept;
        }

        private void keepCells(int pointCount, int kept, Map<Integer, long[]> found) {
            for (Map.Entry<Integer, long[]> facet : found.entrySet()) {
                int set = 0;
                int next = 0;
                for (int p = 0; p < pointCount; p++) {
                    if (has(kept, p)) {
                        set |= has(facet.getKey(), p) ? 1 << next : 0;
                        next++;
                    }
                }
                planes.put(set, facet.getValue());
            }
            List<TreeSet<Integer>> byDimension = new ArrayList<>();
            for (int k = 0; k < dim; k++) {
                byDimension.add(new TreeSet<>());
            }
            for (int set : commonSets()) {
                byDimension.get(dimensionOf(set)).add(set);
            }
            cells = new int[dim][];
            for (int k = 0; k < dim; k++) {
                cells[k] = byDimension.get(k).stream().mapToInt(Integer::intValue).toArray();
            }
        }

        private Set<Integer> commonSets() {
            Set<Integer> all = new HashSet<>(planes.keySet());
            Deque<Integer> todo = new ArrayDeque<>(all);
            while (!todo.isEmpty()) {
                int set = todo.poll();
                for (int facet : planes.keySet()) {
                    if ((set & facet) != 0 && all.add(set & facet)) {
                        todo.add(set & facet);
                    }
                }
            }
            return all;
        }

        private int dimensionOf(int set) {
            List<BigInteger[]> places = new ArrayList<>();
            for (int c = 0; c < corners.length; c++) {
                if (has(set, c)) {
                    places.add(big(corners[c], dim));
                }
            }
            return spread(places, dim);
        }

        int[] facets() {
            return cells[dim - 1];
        }

        int cellCount(int k) {
            return k < dim ? cells[k].length : 0;
        }

        boolean isSimpleFaced() {
            return Arrays.stream(facets()).allMatch(facet -> Integer.bitCount(facet) == dim);
        }

        boolean isEachD() {
            for (int c = 0; c < corners.length; c++) {
                int corner = 1 << c;
                if (Arrays.stream(facets()).filter(facet -> lies(corner, facet)).count() != dim) {
                    return false;
                }
            }
            return true;
        }

        boolean isEdge(int one, int other) {
            return Arrays.binarySearch(cells[1], 1 << one | 1 << other) >= 0;
        }

        long level(int facet, long[] place, long times) {
            return level(planes.get(facet), place, dim, times);
        }

        boolean isOut(long[] place) {
            return firstParting(place) != NONE;
        }

        int firstParting(long[] place) {
            for (int f = 0; f < facets().length; f++) {
                if (level(facets()[f], place, 1) > 0) {
                    return f;
                }
            }
            return NONE;
        }

        /** In a CELL is what lies in all planes of FACETS that the CELL lies in. */
        int where(long[] place) {
            if (isOut(place)) {
                return NONE;
            }
            for (int k = 0; k < dim; k++) {
                for (int cell : cells[k]) {
                    if (Arrays.stream(facets()).allMatch(f -> !lies(cell, f) || level(f, place, 1) == 0)) {
                        return k;
                    }
                }
            }
            return dim;
        }

        List<Integer> pieces() {
            if (pieces == null) {
                pieces = new ArrayList<>();
                cutFrom(dim, (1 << corners.length) - 1, 0, pieces);
            }
            return pieces;
        }

        private void cutFrom(int k, int cell, int before, List<Integer> into) {
            if (k < dim && Integer.bitCount(cell) == k + 1) {
                into.add(cell | before);
                return;
            }
            int least = Integer.lowestOneBit(cell);
            for (int side : cells[k - 1]) {
                if (lies(side, cell) && (side & least) == 0) {
                    cutFrom(k - 1, side, before | least, into);
                }
            }
        }

        /** By the last CORNER, where the class takes the first. */
        long sizeOf(int piece) {
            int last = 31 - Integer.numberOfLeadingZeros(piece);
            long[][] rows = new long[dim][];
            int next = 0;
            for (int c = 0; c < last; c++) {
                if (has(piece, c)) {
                    rows[next] = minus(corners[c], corners[last]);
                    next++;
                }
            }
            return Math.abs(determinant(rows));
        }

        long whole(int times, boolean inner) {
            long[] low = new long[dim];
            long[] high = new long[dim];
            long box = 1;
            for (int k = 0; k < dim; k++) {
                int axis = k;
                low[k] = times * Arrays.stream(corners).mapToLong(c -> c[axis]).min().orElseThrow();
                high[k] = times * Arrays.stream(corners).mapToLong(c -> c[axis]).max().orElseThrow();
                box *= high[k] - low[k] + 1;
            }
            return box > 20000 ? LARGE : countWhole(low, high, low.clone(), 0, times, inner);
        }

        private long countWhole(long[] low, long[] high, long[] place, int axis, int times, boolean inner) {
            if (axis == dim) {
                int bound = inner ? -1 : 0;
                return Arrays.stream(facets()).allMatch(f -> Long.signum(level(f, place, times)) <= bound) ? 1 : 0;
            }
            long count = 0;
            for (place[axis] = low[axis]; place[axis] <= high[axis]; place[axis]++) {
                count += countWhole(low, high, place, axis + 1, times, inner);
            }
            return count;
        }

        /** flagSteps[a][k]: the other FLAG that is unlike a in its CELL of k alone. */
        int[][] flagSteps() {
            if (flagSteps == null) {
                List<int[]> flags = new ArrayList<>();
                collectFlags(dim - 1, new int[dim], flags);
                flagSteps = new int[flags.size()][dim];
                for (int k = 0; k < dim; k++) {
                    Map<String, Integer> first = new HashMap<>();
                    for (int a = 0; a < flags.size(); a++) {
                        int[] rest = flags.get(a).clone();
                        rest[k] = 0;
                        Integer other = first.put(Arrays.toString(rest), a);
                        if (other != null) {
                            flagSteps[a][k] = other;
                            flagSteps[other][k] = a;
                        }
                    }
                }
            }
            return flagSteps;
        }

        private void collectFlags(int k, int[] flag, List<int[]> into) {
            if (k < 0) {
                into.add(flag.clone());
                return;
            }
            for (int cell : cells[k]) {
                if (k == dim - 1 || lies(cell, flag[k + 1])) {
                    flag[k] = cell;
                    collectFlags(k - 1, flag, into);
                }
            }
        }
    }

    /** How many renamings take the one to the other; turned: CORNERS to FACETS. Counted up to a limit. */
    private static int renamings(Shape one, Shape other, boolean turned, int limit) {
        int[][] steps = one.flagSteps();
        int[][] goal = other.flagSteps();
        if (one.dim != other.dim || steps.length != goal.length) {
            return 0;
        }
        int found = 0;
        for (int start = 0; start < goal.length && found < limit; start++) {
            found += takesAll(steps, goal, start, turned) ? 1 : 0;
        }
        return found;
    }

    private static boolean takesAll(int[][] steps, int[][] goal, int start, boolean turned) {
        int[] image = new int[steps.length];
        Arrays.fill(image, NONE);
        boolean[] used = new boolean[steps.length];
        Deque<Integer> todo = new ArrayDeque<>();
        todo.add(0);
        image[0] = start;
        used[start] = true;
        while (!todo.isEmpty()) {
            int flag = todo.poll();
            int dim = steps[flag].length;
            for (int k = 0; k < dim; k++) {
                int next = steps[flag][k];
                int due = goal[image[flag]][turned ? dim - 1 - k : k];
                if (image[next] == NONE && !used[due]) {
                    image[next] = due;
                    used[due] = true;
                    todo.add(next);
                } else if (image[next] != due) {
                    return false;
                }
            }
        }
        return true;
    }

    // ---- an object with what has been made on it

    /** Makes the object anew, long before its 512 calls are used up, by the calls that made its bodies. */
    private static final class Subject {
        private final List<int[]> makers = new ArrayList<>();
        final List<Shape> shapes = new ArrayList<>();
        private BodyCorners object = new BodyCorners();
        private int calls;

        /** The object, with room for so many calls more. */
        BodyCorners ready(int many) {
            calls += many;
            if (calls > CALLS_MAX) {
                object = new BodyCorners();
                for (int[] maker : makers) {
                    call(object, maker);
                }
                calls = makers.size() + many;
            }
            return object;
        }

        int make(int... maker) {
            int answer = call(ready(1), maker);
            makers.add(maker);
            return answer;
        }

        private static int call(BodyCorners x, int[] a) {
            switch (a[0]) {
                case 0:
                    return x.point(a[1], a[2], a[3], a[4]);
                case 1:
                    return x.body(a[1]);
                case 2:
                    return x.cut(a[1], a[2], a[3], a[4], a[5], a[6]);
                case 3:
                    return x.slice(a[1], a[2], a[3]);
                case 4:
                    return x.shadow(a[1], a[2]);
                case 5:
                    return x.raise(a[1], a[2], a[3]);
                case 6:
                    return x.product(a[1], a[2]);
                case 7:
                    return x.both(a[1], a[2]);
                default:
                    return x.wipe();
            }
        }

        /** What is due for a body of these points, which are not flat; the body is there then. */
        long admit(List<long[]> points, int dim, long scale) {
            if (shapes.size() >= BODY_MAX || Shape.distinct(points, dim).length > POINT_MAX) {
                return FULL;
            }
            for (long[] point : points) {
                for (int k = 0; k < dim; k++) {
                    if (Math.abs(point[k]) > 999) {
                        return LARGE;
                    }
                }
            }
            Shape shape = Shape.of(points, dim);
            if (shape == null) {
                return NOT;
            }
            shape.scale = scale;
            shapes.add(shape);
            return shapes.size() - 1;
        }
    }

    // ---- ways to make a body of others

    /** Places as fractions: the numbers above, the one below last. */
    private static List<BigInteger[]> section(Shape from, long[] plane, boolean below) {
        List<BigInteger[]> out = new ArrayList<>();
        int dim = from.dim;
        for (long[] corner : from.corners) {
            long level = Shape.level(plane, corner, dim, 1);
            if (level == 0 || below && level < 0) {
                BigInteger[] place = Arrays.copyOf(big(corner, dim), dim + 1);
                place[dim] = BigInteger.ONE;
                out.add(place);
            }
        }
        for (int edge : from.cells[1]) {
            long[] one = from.corners[Integer.numberOfTrailingZeros(edge)];
            long[] other = from.corners[31 - Integer.numberOfLeadingZeros(edge)];
            long oneLevel = Shape.level(plane, one, dim, 1);
            long otherLevel = Shape.level(plane, other, dim, 1);
            if (Long.signum(oneLevel) * Long.signum(otherLevel) < 0) {
                BigInteger[] place = new BigInteger[dim + 1];
                for (int k = 0; k < dim; k++) {
                    place[k] = BigInteger.valueOf(one[k] * otherLevel - other[k] * oneLevel);
                }
                place[dim] = BigInteger.valueOf(otherLevel - oneLevel);
                out.add(place);
            }
        }
        return out;
    }

    private static BigInteger scaleOf(List<BigInteger[]> places, int dim, int left) {
        BigInteger scale = BigInteger.ONE;
        for (BigInteger[] place : places) {
            for (int k = 0; k < dim; k++) {
                BigInteger need = place[dim].divide(place[dim].gcd(place[k])).abs();
                if (k != left) {
                    scale = scale.multiply(need).divide(scale.gcd(need));
                }
            }
        }
        return scale;
    }

    /** What a CUT (left: NONE) or a SLICE that leaves one coordinate out answers. */
    private static long dueOfSection(Subject subject, Shape from, long[] plane, int left) {
        List<BigInteger[]> places = section(from, plane, left == NONE);
        BigInteger scale = scaleOf(places, from.dim, left);
        int dim = left == NONE ? from.dim : from.dim - 1;
        List<BigInteger[]> whole = new ArrayList<>();
        List<long[]> points = new ArrayList<>();
        for (BigInteger[] place : places) {
            BigInteger[] out = new BigInteger[dim];
            long[] point = new long[dim];
            for (int k = 0; k < dim; k++) {
                BigInteger above = place[left == NONE || k < left ? k : k + 1];
                out[k] = above.multiply(scale).divide(place[from.dim]);
                point[k] = out[k].abs().min(BigInteger.valueOf(1000)).longValueExact() * out[k].signum();
            }
            whole.add(out);
            points.add(point);
        }
        if (spread(whole, dim) < dim) {
            return NOT;
        }
        if (places.size() > POINT_MAX) {
            return FULL;
        }
        // A scale beyond a long comes with a coordinate that is LARGE.
        return subject.admit(points, dim, scale.longValue());
    }

    private static void tryCut(Subject subject, int i, Random random) {
        Shape from = subject.shapes.get(i);
        long[] plane = new long[from.dim + 1];
        while (Arrays.stream(plane).limit(from.dim).allMatch(a -> a == 0)) {
            for (int k = 0; k < from.dim; k++) {
                plane[k] = random.nextInt(3) == 0 ? random.nextInt(19) - 9 : random.nextInt(3) - 1;
            }
        }
        long[] one = from.corners[random.nextInt(from.corners.length)];
        long[] other = from.corners[random.nextInt(from.corners.length)];
        long way = Shape.level(plane, one, from.dim, 0) + random.nextInt(3) * Shape.level(plane, other, from.dim, 0);
        plane[from.dim] = Math.max(-9999, Math.min(9999, random.nextInt(4) == 0 ? random.nextInt(41) - 20 : way / 2));
        int[] a = new int[4];
        Arrays.fill(a, 77);
        for (int k = 0; k < from.dim; k++) {
            a[k] = (int) plane[k];
        }
        int got = subject.make(2, i, a[0], a[1], a[2], a[3], (int) plane[from.dim]);
        due("cut", got, dueOfSection(subject, from, plane, NONE));
    }

    private static void trySlice(Subject subject, int i, Random random) {
        Shape from = subject.shapes.get(i);
        int k = random.nextInt(from.dim);
        long[] plane = new long[from.dim + 1];
        plane[k] = 1;
        long one = from.corners[random.nextInt(from.corners.length)][k];
        long other = from.corners[random.nextInt(from.corners.length)][k];
        plane[from.dim] = (one + other) / 2;
        int got = subject.make(3, i, k, (int) plane[from.dim]);
        due("slice", got, from.dim == 2 ? OUTSIDE : dueOfSection(subject, from, plane, k));
    }

    private static void tryShadow(Subject subject, int i, Random random) {
        Shape from = subject.shapes.get(i);
        int k = random.nextInt(from.dim);
        List<long[]> points = new ArrayList<>();
        for (long[] corner : from.corners) {
            points.add(dropped(corner, k));
        }
        int got = subject.make(4, i, k);
        due("shadow", got, from.dim == 2 ? OUTSIDE : subject.admit(points, from.dim - 1, 1));
    }

    private static long[] lifted(long[] place, long times, long height) {
        long[] out = Arrays.copyOf(place, place.length + 1);
        for (int k = 0; k < place.length; k++) {
            out[k] *= times;
        }
        out[place.length] = height;
        return out;
    }

    private static void tryRaise(Subject subject, int i, Random random) {
        Shape from = subject.shapes.get(i);
        int kind = random.nextInt(3);
        int h = 1 + random.nextInt(random.nextBoolean() ? 3 : 99);
        List<long[]> points = new ArrayList<>();
        long[] sum = new long[from.dim];
        for (long[] corner : from.corners) {
            points.add(lifted(corner, kind == 2 ? from.corners.length : 1, 0));
            for (int k = 0; k < from.dim; k++) {
                sum[k] += corner[k];
            }
        }
        for (int c = 0; c < from.corners.length && kind < 2; c++) {
            if (kind == 0 || c == 0) {
                points.add(lifted(from.corners[c], 1, h));
            }
        }
        if (kind == 2) {
            points.add(lifted(sum, 1, h));
            points.add(lifted(sum, 1, -h));
        }
        int got = subject.make(5, i, kind, h);
        due("raise", got, from.dim == 4 ? OUTSIDE : subject.admit(points, from.dim + 1, 1));
    }

    private static void tryProduct(Subject subject, int i, int j) {
        Shape one = subject.shapes.get(i);
        Shape other = subject.shapes.get(j);
        List<long[]> points = new ArrayList<>();
        for (long[] a : one.corners) {
            for (long[] b : other.corners) {
                points.add(new long[] {a[0], a[1], b[0], b[1]});
            }
        }
        int got = subject.make(6, i, j);
        due("product", got, one.dim != 2 || other.dim != 2 ? OUTSIDE : subject.admit(points, 4, 1));
    }

    private static void tryBoth(Subject subject, int i, int j) {
        Shape one = subject.shapes.get(i);
        Shape other = subject.shapes.get(j);
        List<long[]> points = new ArrayList<>(List.of(one.corners));
        points.addAll(List.of(other.corners));
        int got = subject.make(7, i, j);
        due("both", got, one.dim != other.dim ? OUTSIDE : subject.admit(points, one.dim, 1));
    }

    private static void makeOfOthers(Subject subject, Random random) {
        int i = random.nextInt(subject.shapes.size());
        int j = random.nextInt(subject.shapes.size());
        switch (random.nextInt(6)) {
            case 0:
                tryCut(subject, i, random);
                break;
            case 1:
                trySlice(subject, i, random);
                break;
            case 2:
                tryShadow(subject, i, random);
                break;
            case 3:
                tryRaise(subject, i, random);
                break;
            case 4:
                tryProduct(subject, i, j);
                break;
            default:
                tryBoth(subject, i, j);
        }
    }

    private static void makeOfPoints(Subject subject, Random random, int reach) {
        int dim = 2 + random.nextInt(3);
        int many = dim + 1 + random.nextInt(POINT_MAX - dim);
        List<long[]> points = new ArrayList<>();
        for (int p = 0; p < many; p++) {
            long[] point = new long[4];
            for (int k = 0; k < 4; k++) {
                point[k] = random.nextInt(reach + 1) - (reach > 3 ? reach / 2 : 0);
            }
            points.add(point);
            subject.make(0, (int) point[0], (int) point[1], (int) point[2], (int) point[3]);
        }
        due("body", subject.make(1, dim), subject.admit(points, dim, 1));
        subject.make(8);
    }

    // ---- questions

    private static void askAbout(Subject subject, int i) {
        Shape shape = subject.shapes.get(i);
        BodyCorners x = subject.ready(6 + 64 + shape.dim + 1);
        due("D", x.about(i, 0), shape.dim);
        due("CORNERS", x.about(i, 1), shape.corners.length);
        due("SCALE", x.about(i, 2), shape.scale);
        due("SIMPLE-FACED", x.about(i, 3), shape.isSimpleFaced() ? 1 : 0);
        due("EACH-D", x.about(i, 4), shape.isEachD() ? 1 : 0);
        due("TURNS", x.about(i, 5), renamings(shape, shape, false, Integer.MAX_VALUE));
        for (int c = 0; c < shape.corners.length; c++) {
            for (int k = 0; k < shape.dim; k++) {
                due("corner", x.corner(i, c, k), shape.corners[c][k]);
            }
        }
        for (int k = 0; k <= shape.dim; k++) {
            due("h", x.h(i, k), shape.isSimpleFaced() ? hOf(shape, k) : NOT);
        }
    }

    /** H-COUNT k is the number before t^(D - k) in the sum of f(i - 1) (t - 1)^(D - i). */
    private static long hOf(Shape shape, int k) {
        long[] sum = new long[shape.dim + 1];
        for (int i = 0; i <= shape.dim; i++) {
            long[] power = new long[shape.dim + 1];
            power[0] = i == 0 ? 1 : shape.cellCount(i - 1);
            for (int times = i; times < shape.dim; times++) {
                for (int t = shape.dim; t >= 0; t--) {
                    power[t] = (t > 0 ? power[t - 1] : 0) - power[t];
                }
            }
            for (int t = 0; t <= shape.dim; t++) {
                sum[t] += power[t];
            }
        }
        return sum[shape.dim - k];
    }

    private static void askFaces(Subject subject, int i, Random random) {
        Shape shape = subject.shapes.get(i);
        int sum = 0;
        for (int k = 0; k < 4; k++) {
            due("faces", subject.ready(1).faces(i, k), shape.cellCount(k));
            sum += sign(k) * shape.cellCount(k);
            for (int j = 0; j < shape.cellCount(k); j++) {
                due("face", subject.ready(1).face(i, k, j), shape.cells[k][j]);
            }
        }
        due("sum", subject.ready(1).sum(i), sum);
        for (int time = 0; time < 10; time++) {
            int k = random.nextInt(shape.dim);
            int l = random.nextInt(shape.dim);
            int j = random.nextInt(shape.cellCount(k));
            int cell = shape.cells[k][j];
            long want = Arrays.stream(shape.cells[l]).filter(e -> l < k ? lies(e, cell) : lies(cell, e)).count();
            due("lies", subject.ready(1).lies(i, k, j, l), want);
        }
    }

    private static void askPairs(Subject subject, int i, int j) {
        Shape one = subject.shapes.get(i);
        Shape other = subject.shapes.get(j);
        BodyCorners x = subject.ready(3);
        due("same", x.same(i, j), renamings(one, other, false, 1));
        due("inside", x.inside(i, j), renamings(one, other, true, 1));
        long held = one.dim != other.dim ? OUTSIDE : Arrays.stream(other.corners).filter(c -> !one.isOut(c)).count();
        due("holds", x.holds(i, j), held);
    }

    private static List<Integer> someRow(Shape shape, Random random) {
        List<Integer> left = new ArrayList<>();
        for (int f = 0; f < shape.facets().length; f++) {
            left.add(f);
        }
        Collections.shuffle(left, random);
        List<Integer> row = new ArrayList<>();
        int most = 1 + random.nextInt(left.size());
        boolean good = random.nextInt(4) > 0;
        while (row.size() < most) {
            int next = 0;
            for (int q = 0; q < left.size() && good; q++) {
                row.add(left.get(q));
                next = firstUnmet(shape, row) == NONE ? q : next;
                row.remove(row.size() - 1);
            }
            row.add(left.remove(next));
        }
        return row;
    }

    private static int firstUnmet(Shape shape, List<Integer> row) {
        for (int j = 1; j < row.size(); j++) {
            for (int i = 0; i < j; i++) {
                if (!isAnswered(shape, row, i, j)) {
                    return j;
                }
            }
        }
        return NONE;
    }

    private static boolean isAnswered(Shape shape, List<Integer> row, int i, int j) {
        int own = shape.facets()[row.get(j)];
        int common = own & shape.facets()[row.get(i)];
        for (int k = 0; k < j; k++) {
            int ahead = shape.facets()[row.get(k)];
            if (Integer.bitCount(own & ahead) == shape.dim - 1 && lies(common, ahead)) {
                return true;
            }
        }
        return false;
    }

    private static int newOf(Shape shape, List<Integer> row, int j) {
        int own = shape.facets()[row.get(j)];
        int found = 0;
        for (int c = 0; c < shape.corners.length; c++) {
            int rest = own & ~(1 << c);
            if (has(own, c) && row.subList(0, j).stream().anyMatch(f -> lies(rest, shape.facets()[f]))) {
                found++;
            }
        }
        return found;
    }

    private static void askRow(Subject subject, int i, Random random) {
        Shape shape = subject.shapes.get(i);
        List<Integer> row = someRow(shape, random);
        BodyCorners x = subject.ready(row.size() + 8);
        x.clear();
        for (int j = 0; j < row.size(); j++) {
            due("row", x.row(row.get(j)), j + 1);
        }
        boolean simple = shape.isSimpleFaced();
        due("meets", x.meets(i), simple ? firstUnmet(shape, row) : NOT);
        long[] places = new long[5];
        for (int j = 0; j < row.size() && simple; j++) {
            places[newOf(shape, row, j)]++;
        }
        for (int k = 0; k < 5; k++) {
            due("fresh", x.fresh(i, k), simple ? places[k] : NOT);
        }
        due("clear", x.clear(), row.size());
    }

    /** The FACETS of a body with other names, in some order, often with one too few or too many. */
    private static void askPattern(Subject subject, int i, Random random) {
        Shape shape = subject.shapes.get(i);
        int marks = Math.min(12, shape.corners.length + (random.nextInt(6) == 0 ? 1 : 0));
        List<Integer> sets = renamed(shape, random);
        if (random.nextInt(4) == 0) {
            sets.remove(0);
        }
        BodyCorners x = subject.ready(sets.size() + 3);
        due("pattern", x.pattern(marks), 1);
        for (int s = 0; s < sets.size(); s++) {
            due("set", x.set(sets.get(s)), s + 1);
        }
        int more = 0;
        while (Integer.bitCount(more) != shape.dim) {
            more = random.nextInt(1 << marks);
        }
        if (random.nextInt(4) == 0 && sets.size() < 24 && !sets.contains(more)) {
            sets.add(more);
            due("set", x.set(more), sets.size());
        }
        due("place", x.place(shape.dim), placeOf(subject, sets, marks, shape));
    }

    private static List<Integer> renamed(Shape shape, Random random) {
        List<Integer> names = new ArrayList<>();
        for (int c = 0; c < shape.corners.length; c++) {
            names.add(c);
        }
        Collections.shuffle(names, random);
        List<Integer> sets = new ArrayList<>();
        for (int facet : shape.facets()) {
            int set = 0;
            for (int c = 0; c < shape.corners.length; c++) {
                set |= has(facet, c) ? 1 << names.get(c) : 0;
            }
            sets.add(set);
        }
        Collections.shuffle(sets, random);
        return sets;
    }

    /** A pattern that meets all LAWS is the one that was made of the shape: one SET more or less breaks LAW 2. */
    private static long placeOf(Subject subject, List<Integer> sets, int marks, Shape shape) {
        int law = firstLaw(sets, marks, shape.dim);
        for (int i = 0; i < subject.shapes.size() && law == 0; i++) {
            if (renamings(shape, subject.shapes.get(i), false, 1) == 1) {
                return 100 + i;
            }
        }
        return law;
    }

    private static int firstLaw(List<Integer> sets, int marks, int dim) {
        Map<Integer, List<Integer>> around = new HashMap<>();
        Set<Integer> parts = new HashSet<>();
        int used = 0;
        for (int set : sets) {
            used |= set;
            for (int part = set; part != 0; part = part - 1 & set) {
                parts.add(part);
                if (Integer.bitCount(part) == dim - 1) {
                    around.computeIfAbsent(part, none -> new ArrayList<>()).add(set);
                }
            }
        }
        if (used != (1 << marks) - 1) {
            return 1;
        }
        if (around.values().stream().anyMatch(pair -> pair.size() != 2)) {
            return 2;
        }
        if (comeTo(sets.get(0), around) != sets.size()) {
            return 3;
        }
        int sum = parts.stream().mapToInt(part -> sign(Integer.bitCount(part) - 1)).sum();
        return sum == 1 - sign(dim) ? 0 : 4;
    }

    private static int comeTo(int first, Map<Integer, List<Integer>> around) {
        Set<Integer> seen = new HashSet<>(List.of(first));
        Deque<Integer> todo = new ArrayDeque<>(seen);
        while (!todo.isEmpty()) {
            int set = todo.poll();
            for (List<Integer> pair : around.values()) {
                for (int next : pair) {
                    if (pair.contains(set) && seen.add(next)) {
                        todo.add(next);
                    }
                }
            }
        }
        return seen.size();
    }

    private static int[] edgesFrom(Shape shape, int from) {
        int[] taken = new int[shape.corners.length];
        Arrays.fill(taken, NONE);
        taken[from] = 0;
        Deque<Integer> todo = new ArrayDeque<>(List.of(from));
        while (!todo.isEmpty()) {
            int c = todo.poll();
            for (int next = 0; next < taken.length; next++) {
                if (taken[next] == NONE && shape.isEdge(c, next)) {
                    taken[next] = taken[c] + 1;
                    todo.add(next);
                }
            }
        }
        return taken;
    }

    private static void askWalks(Subject subject, int i, Random random) {
        Shape shape = subject.shapes.get(i);
        int most = 0;
        for (int a = 0; a < shape.corners.length; a++) {
            int[] taken = edgesFrom(shape, a);
            int b = random.nextInt(taken.length);
            due("walk", subject.ready(1).walk(i, a, b), taken[b]);
            most = Math.max(most, Arrays.stream(taken).max().orElseThrow());
        }
        due("far", subject.ready(1).far(i), most);
    }

    private static long height(Shape shape, int c, int[] tilt) {
        long sum = 0;
        for (int k = 0; k < shape.dim; k++) {
            sum += tilt[k] * shape.corners[c][k];
        }
        return sum;
    }

    private static int highestBeside(Shape shape, int c, int[] tilt) {
        int best = c;
        for (int next = 0; next < shape.corners.length; next++) {
            if (shape.isEdge(c, next) && height(shape, next, tilt) > height(shape, best, tilt)) {
                best = next;
            }
        }
        return best;
    }

    private static long upsFrom(Shape shape, int a, int b, int[] tilt) {
        if (a == b) {
            return 1;
        }
        long ways = 0;
        for (int next = 0; next < shape.corners.length; next++) {
            if (shape.isEdge(a, next) && height(shape, next, tilt) > height(shape, a, tilt)) {
                ways += upsFrom(shape, next, b, tilt);
            }
        }
        return ways;
    }

    private static void askUps(Subject subject, int i, Random random) {
        Shape shape = subject.shapes.get(i);
        int bound = random.nextInt(3) == 0 ? 1 : 99;
        int[] tilt = new int[4];
        for (int k = 0; k < 4; k++) {
            tilt[k] = random.nextInt(2 * bound + 1) - bound;
        }
        BodyCorners x = subject.ready(1 + 4 * shape.corners.length);
        due("tilt", x.tilt(tilt[0], tilt[1], tilt[2], tilt[3]), 1);
        for (int c = 0; c < shape.corners.length; c++) {
            int top = c;
            int taken = 0;
            while (highestBeside(shape, top, tilt) != top) {
                top = highestBeside(shape, top, tilt);
                taken++;
            }
            due("up to", x.up(i, c, 0), top);
            due("up by", x.up(i, c, 1), taken);
            due("up height", x.up(i, c, 2), height(shape, top, tilt));
            if (shape.corners.length <= 12) {
                int b = random.nextInt(shape.corners.length);
                due("ups", x.ups(i, c, b), upsFrom(shape, c, b, tilt));
            }
        }
    }

    private static boolean endsRing(Shape shape, int[] path, int at, int used) {
        if (at == path.length) {
            return shape.isEdge(path[at - 1], 0);
        }
        for (int next = 1; next < path.length; next++) {
            if (!has(used, next) && shape.isEdge(path[at - 1], next)) {
                path[at] = next;
                if (endsRing(shape, path, at + 1, used | 1 << next)) {
                    return true;
                }
            }
        }
        return false;
    }

    private static void askRing(Subject subject, int i) {
        Shape shape = subject.shapes.get(i);
        int many = shape.corners.length;
        int[] path = new int[many];
        boolean some = many <= 12 && endsRing(shape, path, 1, 1);
        for (int k = 0; k <= many; k++) {
            due("ring", subject.ready(1).ring(i, k), many > 12 ? LARGE : some && k < many ? path[k] : NONE);
        }
    }

    private static void askPlaces(Subject subject, int i, Random random) {
        Shape shape = subject.shapes.get(i);
        for (int time = 0; time < 10; time++) {
            long[] one = shape.corners[random.nextInt(shape.corners.length)];
            long[] other = shape.corners[random.nextInt(shape.corners.length)];
            long[] place = new long[4];
            for (int k = 0; k < 4; k++) {
                place[k] = k < shape.dim ? (one[k] + other[k]) / 2 : random.nextInt(9);
            }
            place[random.nextInt(4)] += random.nextInt(3) - 1;
            BodyCorners x = subject.ready(4);
            x.wipe();
            if (x.point((int) place[0], (int) place[1], (int) place[2], (int) place[3]) == 1) {
                due("where", x.where(i), shape.where(place));
                due("parted", x.parted(i), shape.firstParting(place));
            }
        }
        subject.ready(1).wipe();
    }

    private static void askSizes(Subject subject, int i) {
        Shape shape = subject.shapes.get(i);
        long size = 0;
        due("PIECES", subject.ready(1).about(i, 6), shape.pieces().size());
        for (int j = 0; j < shape.pieces().size(); j++) {
            int piece = shape.pieces().get(j);
            BodyCorners x = subject.ready(2);
            due("piece", x.piece(i, j, 0), piece);
            due("its SIZE", x.piece(i, j, 1), shape.sizeOf(piece));
            size += shape.sizeOf(piece);
        }
        due("size", subject.ready(1).size(i), size);
        for (int s = 1; s <= 4; s++) {
            due("whole", subject.ready(1).whole(i, s, 0), shape.whole(s, false));
            due("whole inside", subject.ready(1).whole(i, s, 1), shape.whole(s, true));
        }
    }

    private static void askAll(Subject subject, Random random) {
        for (int i = 0; i < subject.shapes.size(); i++) {
            askAbout(subject, i);
            askFaces(subject, i, random);
            for (int j = 0; j < subject.shapes.size(); j++) {
                askPairs(subject, i, j);
            }
            askRow(subject, i, random);
            if (subject.shapes.get(i).isSimpleFaced() && subject.shapes.get(i).corners.length <= 12
                    && subject.shapes.get(i).facets().length <= 24) {
                askPattern(subject, i, random);
            }
            askWalks(subject, i, random);
            askUps(subject, i, random);
            askRing(subject, i);
            askPlaces(subject, i, random);
            askSizes(subject, i);
        }
    }

    public static void main(String[] args) {
        int[] reaches = {1, 2, 3, 18, 1998};
        int objects = args.length > 0 ? Integer.parseInt(args[0]) : OBJECTS;
        int seed = args.length > 1 ? Integer.parseInt(args[1]) : 1;
        for (int o = 0; o < objects; o++) {
            Random random = new Random(1000003L * seed + o);
            Subject subject = new Subject();
            for (int b = 0; b < 8; b++) {
                makeOfPoints(subject, random, reaches[o % reaches.length]);
            }
            for (int b = 0; b < 20 && !subject.shapes.isEmpty(); b++) {
                makeOfOthers(subject, random);
            }
            due("BODIES", subject.ready(1).count(0), subject.shapes.size());
            askAll(subject, random);
        }
        System.out.println(passed + " passed, " + failed + " failed");
        System.exit(failed == 0 ? 0 : 1);
    }
}

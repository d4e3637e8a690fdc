import java.util.Arrays;

/**
 * Bodies by their corners, in two to four dimensions. The document ../shared/DOC.md tells the words in
 * capitals and numbers the promises; each public method below keeps the promise of its name.
 *
 * <p>Everywhere a place has four numbers, those beyond the body's own dimension being 0: one arithmetic
 * then serves all three dimensions.
 */
public final class BodyCorners {
    public static final int NONE = -1, UNKNOWN = -1001, OUTSIDE = -1002, NOT = -1003, FULL = -1004, LARGE = -1005;

    private static final int BODY_MAX = 24;
    private static final int POINT_MAX = 16;
    private static final int AXES = 4;
    private static final int REACH = 999;
    /** The most FACETS, and RIDGES in four dimensions, that 16 CORNERS can have (those of the round ones). */
    private static final int FACET_MAX = 104;
    private static final int RIDGE_MAX = 208;
    /** No cut from one CORNER of 16 has more PIECES (the lower side of a round body of five dimensions). */
    private static final int PIECE_MAX = 256;
    /** Numbers of a plane: a0 .. a3 and b; the body has a x <= b. */
    private static final int PLANE = 5;
    private static final int ROW_MAX = 104;
    private static final int RING_MAX = 12;
    private static final int BOX_MAX = 20000;
    private static final int MADE = 100;

    private final Solid[] bodies = new Solid[BODY_MAX];
    private int bodyCount;
    private final int[] draft = new int[POINT_MAX * AXES];
    private int draftCount;
    private final Hull hull = new Hull();
    private final Section section = new Section();
    private final Matcher matcher = new Matcher();
    private final Plan plan = new Plan();
    private final FacetRow facetRow = new FacetRow();
    private final Walker walker = new Walker();
    private final Lattice lattice = new Lattice();
    private final Script script = new Script();
    private final Claims claims = new Claims();

    public BodyCorners() {
    }

    // ---- points, bodies

    public int point(int x, int y, int z, int w) {
        if (!within(x, REACH) || !within(y, REACH) || !within(z, REACH) || !within(w, REACH)) {
            return OUTSIDE;
        }
        if (draftCount >= POINT_MAX) {
            return FULL;
        }
        int at = draftCount * AXES;
        draft[at] = x;
        draft[at + 1] = y;
        draft[at + 2] = z;
        draft[at + 3] = w;
        draftCount++;
        return draftCount;
    }

    public int wipe() {
        int had = draftCount;
        draftCount = 0;
        return had;
    }

    public int body(int d) {
        if (!isDimension(d)) {
            return OUTSIDE;
        }
        hull.begin(d);
        for (int p = 0; p < draftCount; p++) {
            hull.tellTimes(draft, p * AXES, 1);
        }
        if (!hull.findFacets()) {
            return NOT;
        }
        if (bodyCount >= BODY_MAX) {
            return FULL;
        }
        draftCount = 0;
        return keep(hull.make(1));
    }

    public int cut(int i, int a0, int a1, int a2, int a3, int b) {
        Solid from = bodyAt(i);
        if (from == null) {
            return UNKNOWN;
        }
        if (!isCutting(from.dim, a0, a1, a2, a3) || !within(b, 9999)) {
            return OUTSIDE;
        }
        section.aimHalf(from, a0, a1, a2, a3, b);
        return section.isFlat() ? NOT : keepSection();
    }

    public int slice(int i, int k, int c) {
        Solid from = bodyAt(i);
        if (from == null) {
            return UNKNOWN;
        }
        if (k < 0 || k >= from.dim || !within(c, REACH) || from.dim == 2) {
            return OUTSIDE;
        }
        section.aimLayer(from, k, c);
        return section.isFlat() ? NOT : keepSection();
    }

    public int shadow(int i, int k) {
        Solid from = bodyAt(i);
        if (from == null) {
            return UNKNOWN;
        }
        if (k < 0 || k >= from.dim || from.dim == 2) {
            return OUTSIDE;
        }
        if (bodyCount >= BODY_MAX) {
            return FULL;
        }
        hull.begin(from.dim - 1);
        for (int c = 0; c < from.corners; c++) {
            hull.tellWithout(from.places, c * AXES, k);
        }
        return keepHull(1);
    }

    public int raise(int i, int kind, int h) {
        Solid from = bodyAt(i);
        if (from == null) {
            return UNKNOWN;
        }
        if (kind < 0 || kind > 2 || h < 1 || h > 99 || from.dim == AXES) {
            return OUTSIDE;
        }
        int more = kind == 0 ? from.corners : kind;
        if (bodyCount >= BODY_MAX || from.corners + more > POINT_MAX) {
            return FULL;
        }
        if (kind == 2 && from.farthest() * from.corners > REACH) {
            return LARGE;
        }
        hull.begin(from.dim + 1);
        hull.tellAll(from, kind == 2 ? from.corners : 1);
        if (kind == 0) {
            hull.tellLid(from, h);
        } else if (kind == 1) {
            hull.tellTip(from, 1, h);
        } else {
            hull.tellTip(from, from.corners, h);
            hull.tellTip(from, from.corners, -h);
        }
        return keepHull(1);
    }

    public int product(int i, int j) {
        Solid one = bodyAt(i);
        Solid other = bodyAt(j);
        if (one == null || other == null) {
            return UNKNOWN;
        }
        if (one.dim != 2 || other.dim != 2) {
            return OUTSIDE;
        }
        if (bodyCount >= BODY_MAX || one.corners * other.corners > POINT_MAX) {
            return FULL;
        }
        hull.begin(AXES);
        for (int c = 0; c < one.corners; c++) {
            for (int e = 0; e < other.corners; e++) {
                hull.tell(one.at(c, 0), one.at(c, 1), other.at(e, 0), other.at(e, 1));
            }
        }
        return keepHull(1);
    }

    public int both(int i, int j) {
        Solid one = bodyAt(i);
        Solid other = bodyAt(j);
        if (one == null || other == null) {
            return UNKNOWN;
        }
        if (one.dim != other.dim) {
            return OUTSIDE;
        }
        hull.begin(one.dim);
        hull.tellAll(one, 1);
        hull.tellAll(other, 1);
        if (bodyCount >= BODY_MAX || hull.over) {
            return FULL;
        }
        return keepHull(1);
    }

    public int about(int i, int what) {
        Solid solid = bodyAt(i);
        if (solid == null) {
            return UNKNOWN;
        }
        switch (what) {
            case 0:
                return solid.dim;
            case 1:
                return solid.corners;
            case 2:
                return solid.scale;
            case 3:
                return solid.isSimpleFaced() ? 1 : 0;
            case 4:
                return solid.isEachD() ? 1 : 0;
            case 5:
                return turnsOf(solid);
            case 6:
                return solid.piecesOf().length;
            default:
                return OUTSIDE;
        }
    }

    public int corner(int i, int c, int k) {
        Solid solid = bodyAt(i);
        if (solid == null || !solid.hasCorner(c)) {
            return UNKNOWN;
        }
        if (k < 0 || k >= solid.dim) {
            return OUTSIDE;
        }
        return solid.at(c, k);
    }

    public int count(int what) {
        switch (what) {
            case 0:
                return bodyCount;
            case 1:
                return draftCount;
            case 2:
                return claims.held;
            case 3:
                return plan.held;
            case 4:
                return facetRow.held;
            case 5:
                return script.length;
            case 6:
                return cornersOfAll();
            default:
                return OUTSIDE;
        }
    }

    // ---- faces

    public int faces(int i, int k) {
        Solid solid = bodyAt(i);
        if (solid == null) {
            return UNKNOWN;
        }
        if (k < 0 || k >= AXES) {
            return OUTSIDE;
        }
        return solid.cellCount(k);
    }

    public int face(int i, int k, int j) {
        Solid solid = bodyAt(i);
        if (solid == null) {
            return UNKNOWN;
        }
        if (k < 0 || k >= solid.dim) {
            return OUTSIDE;
        }
        return solid.hasCell(k, j) ? solid.cells[k][j] : UNKNOWN;
    }

    public int lies(int i, int k, int j, int l) {
        Solid solid = bodyAt(i);
        if (solid == null) {
            return UNKNOWN;
        }
        if (k < 0 || k >= solid.dim || l < 0 || l >= solid.dim) {
            return OUTSIDE;
        }
        if (!solid.hasCell(k, j)) {
            return UNKNOWN;
        }
        int cell = solid.cells[k][j];
        return l < k ? solid.countWithin(l, cell) : solid.countAround(l, cell);
    }

    public int h(int i, int k) {
        Solid solid = bodyAt(i);
        if (solid == null) {
            return UNKNOWN;
        }
        if (k < 0 || k > solid.dim) {
            return OUTSIDE;
        }
        return solid.isSimpleFaced() ? solid.hCount(k) : NOT;
    }

    public int sum(int i) {
        Solid solid = bodyAt(i);
        if (solid == null) {
            return UNKNOWN;
        }
        int total = 0;
        for (int k = 0; k < AXES; k++) {
            total += signOf(k) * solid.cellCount(k);
        }
        return total;
    }

    // ---- patterns

    public int same(int i, int j) {
        Solid one = bodyAt(i);
        Solid other = bodyAt(j);
        if (one == null || other == null) {
            return UNKNOWN;
        }
        if (one.dim != other.dim) {
            return 0;
        }
        matcher.fromSets(one.corners, one.facetSets(), one.facetCount());
        return matcher.countOnto(other.corners, other.facetSets(), 1);
    }

    public int inside(int i, int j) {
        Solid one = bodyAt(i);
        Solid other = bodyAt(j);
        if (one == null || other == null) {
            return UNKNOWN;
        }
        if (one.dim != other.dim || other.facetCount() > POINT_MAX) {
            return 0;
        }
        matcher.fromCorners(other);
        return matcher.countOnto(one.corners, one.facetSets(), 1);
    }

    public int pattern(int n) {
        if (n < 3 || n > Plan.MARK_MAX) {
            return OUTSIDE;
        }
        plan.marks = n;
        plan.held = 0;
        return 1;
    }

    public int set(int set) {
        if (set <= 0 || set >= 1 << plan.marks) {
            return OUTSIDE;
        }
        if (!plan.admits(set)) {
            return NOT;
        }
        return plan.add(set) ? plan.held : FULL;
    }

    public int place(int d) {
        if (!isDimension(d)) {
            return OUTSIDE;
        }
        if (plan.setSize() != d) {
            return NOT;
        }
        int law = plan.firstBroken(d);
        if (law != 0) {
            return law;
        }
        for (int i = 0; i < bodyCount; i++) {
            Solid solid = bodyAt(i);
            if (solid != null && solid.dim == d) {
                matcher.fromSets(plan.marks, plan.sets, plan.held);
                if (matcher.countOnto(solid.corners, solid.facetSets(), 1) == 1) {
                    return MADE + i;
                }
            }
        }
        return 0;
    }

    public int row(int facet) {
        if (facet < 0 || facet > 199) {
            return OUTSIDE;
        }
        if (facetRow.has(facet)) {
            return NOT;
        }
        return facetRow.add(facet) ? facetRow.held : FULL;
    }

    public int clear() {
        int had = facetRow.held;
        facetRow.held = 0;
        return had;
    }

    public int meets(int i) {
        Solid solid = bodyAt(i);
        if (solid == null || !facetRow.isOf(solid)) {
            return UNKNOWN;
        }
        return solid.isSimpleFaced() ? facetRow.firstUnmet(solid) : NOT;
    }

    public int fresh(int i, int k) {
        Solid solid = bodyAt(i);
        if (solid == null || !facetRow.isOf(solid)) {
            return UNKNOWN;
        }
        if (k < 0 || k > AXES) {
            return OUTSIDE;
        }
        return solid.isSimpleFaced() ? facetRow.placesWithNew(solid, k) : NOT;
    }

    // ---- walks

    public int walk(int i, int a, int b) {
        Solid solid = bodyAt(i);
        if (solid == null || !solid.hasCorner(a) || !solid.hasCorner(b)) {
            return UNKNOWN;
        }
        return walker.steps(solid, a, 1 << b);
    }

    public int far(int i) {
        Solid solid = bodyAt(i);
        if (solid == null) {
            return UNKNOWN;
        }
        int most = 0;
        for (int c = 0; c < solid.corners; c++) {
            most = Math.max(most, walker.steps(solid, c, solid.everyCorner()));
        }
        return most;
    }

    public int tilt(int t0, int t1, int t2, int t3) {
        if (!within(t0, 99) || !within(t1, 99) || !within(t2, 99) || !within(t3, 99)) {
            return OUTSIDE;
        }
        walker.lean(t0, t1, t2, t3);
        return 1;
    }

    public int up(int i, int c, int what) {
        Solid solid = bodyAt(i);
        if (solid == null || !solid.hasCorner(c)) {
            return UNKNOWN;
        }
        if (what < 0 || what > 2) {
            return OUTSIDE;
        }
        walker.climb(solid, c);
        if (what == 0) {
            return walker.top;
        }
        return what == 1 ? walker.climbed : walker.height(solid, walker.top);
    }

    public long ups(int i, int a, int b) {
        Solid solid = bodyAt(i);
        if (solid == null || !solid.hasCorner(a) || !solid.hasCorner(b)) {
            return UNKNOWN;
        }
        return walker.countUp(solid, a, b);
    }

    public int ring(int i, int k) {
        Solid solid = bodyAt(i);
        if (solid == null) {
            return UNKNOWN;
        }
        if (k < 0) {
            return OUTSIDE;
        }
        if (solid.corners > RING_MAX) {
            return LARGE;
        }
        int[] around = walker.ringOf(solid);
        return k < around.length ? around[k] : NONE;
    }

    // ---- places, sizes

    public int where(int i) {
        Solid solid = bodyAt(i);
        if (solid == null) {
            return UNKNOWN;
        }
        return draftCount == 0 ? NOT : solid.cellAround(draft, lastDraft());
    }

    public int parted(int i) {
        Solid solid = bodyAt(i);
        if (solid == null) {
            return UNKNOWN;
        }
        return draftCount == 0 ? NOT : solid.firstBeyond(draft, lastDraft());
    }

    public int holds(int i, int j) {
        Solid one = bodyAt(i);
        Solid other = bodyAt(j);
        if (one == null || other == null) {
            return UNKNOWN;
        }
        if (one.dim != other.dim) {
            return OUTSIDE;
        }
        int held = 0;
        for (int c = 0; c < other.corners; c++) {
            if (one.firstBeyond(other.places, c * AXES) == NONE) {
                held++;
            }
        }
        return held;
    }

    public long size(int i) {
        Solid solid = bodyAt(i);
        if (solid == null) {
            return UNKNOWN;
        }
        int[] pieces = solid.piecesOf();
        long total = 0;
        for (int p = 0; p < pieces.length; p++) {
            total += hull.sizeOf(solid, pieces[p]);
        }
        return total;
    }

    public long piece(int i, int j, int what) {
        Solid solid = bodyAt(i);
        if (solid == null) {
            return UNKNOWN;
        }
        if (what < 0 || what > 1) {
            return OUTSIDE;
        }
        int[] pieces = solid.piecesOf();
        if (j < 0 || j >= pieces.length) {
            return NONE;
        }
        return what == 0 ? pieces[j] : hull.sizeOf(solid, pieces[j]);
    }

    public int whole(int i, int s, int what) {
        Solid solid = bodyAt(i);
        if (solid == null) {
            return UNKNOWN;
        }
        if (s < 1 || s > 4 || what < 0 || what > 1) {
            return OUTSIDE;
        }
        lattice.aim(solid, s, what);
        return lattice.boxPlaces() > BOX_MAX ? LARGE : lattice.countPlaces();
    }

    // ---- the text, claims

    public int feed(int n, long bytes) {
        if (n < 1 || n > 8) {
            return OUTSIDE;
        }
        return script.append(n, bytes) ? script.length : FULL;
    }

    public int read() {
        script.parse(claims.held);
        script.length = 0;
        if (script.faultKind != 0) {
            return -10 - script.faultKind;
        }
        int done = 0;
        while (done < script.clauses && doClause(done)) {
            done++;
        }
        return done;
    }

    public int fault() {
        return script.faultAt;
    }

    public int claim(int k) {
        if (k < 0 || k >= claims.held) {
            return UNKNOWN;
        }
        int about = claims.bodyOf(k);
        if (about >= bodyCount) {
            return NONE;
        }
        int first = about == NONE ? 0 : about;
        int end = about == NONE ? bodyCount : about + 1;
        for (int i = first; i < end; i++) {
            Solid solid = bodyAt(i);
            if (solid != null && !claims.isTrueOf(k, solid)) {
                return MADE + i;
            }
        }
        return 0;
    }

    // ---- what the calls above share

    private static boolean within(int number, int bound) {
        return number >= -bound && number <= bound;
    }

    private static boolean isDimension(int d) {
        return d >= 2 && d <= AXES;
    }

    private static int signOf(int k) {
        return (k & 1) == 0 ? 1 : -1;
    }

    /** The number of the least member of a SET that is not empty. */
    private static int leastOf(int set) {
        return Integer.bitCount((set & -set) - 1);
    }

    private Solid bodyAt(int i) {
        return i >= 0 && i < bodyCount && i < bodies.length ? bodies[i] : null;
    }

    private int lastDraft() {
        return (draftCount - 1) * AXES;
    }

    private int cornersOfAll() {
        int total = 0;
        for (int i = 0; i < bodyCount; i++) {
            Solid solid = bodyAt(i);
            total += solid == null ? 0 : solid.corners;
        }
        return total;
    }

    private int keep(Solid made) {
        if (bodyCount >= bodies.length) {
            return FULL;
        }
        bodies[bodyCount] = made;
        bodyCount++;
        return bodyCount - 1;
    }

    /** A new BODY of what the hull has been told, behind all refusals but NOT. */
    private int keepHull(int scale) {
        return hull.findFacets() ? keep(hull.make(scale)) : NOT;
    }

    private int keepSection() {
        if (bodyCount >= BODY_MAX || section.pointCount() > POINT_MAX) {
            return FULL;
        }
        if (!section.findScale() || !section.tellTo(hull)) {
            return LARGE;
        }
        return keepHull((int) section.scale);
    }

    private static boolean isCutting(int dim, int a0, int a1, int a2, int a3) {
        boolean fits = within(a0, 9) && within(a1, 9);
        boolean some = a0 != 0 || a1 != 0;
        if (dim > 2) {
            fits = fits && within(a2, 9);
            some = some || a2 != 0;
        }
        if (dim > 3) {
            fits = fits && within(a3, 9);
            some = some || a3 != 0;
        }
        return fits && some;
    }

    /** TURNS are counted once and kept: a BODY never changes. */
    private int turnsOf(Solid solid) {
        if (solid.turns == NONE) {
            matcher.fromSets(solid.corners, solid.facetSets(), solid.facetCount());
            solid.turns = matcher.countOnto(solid.corners, solid.facetSets(), Matcher.ALL);
        }
        return solid.turns;
    }

    /** Does one clause of the text; false, if BODIES are FULL. */
    private boolean doClause(int clause) {
        int kind = script.part(clause, 0);
        if (kind == Script.CLAIM) {
            claims.add(script.part(clause, 1), script.part(clause, 2), script.part(clause, 3), script.part(clause, 4));
            return true;
        }
        if (bodyCount >= BODY_MAX) {
            return false;
        }
        hull.begin(script.part(clause, 1));
        hull.tellShape(kind, script.part(clause, 2));
        return keepHull(1) >= 0;
    }

    /** A BODY. It never changes; what is worked out late is kept. */
    private static final class Solid {
        final int dim;
        final int corners;
        final int scale;
        /** AXES numbers a CORNER. */
        final int[] places;
        /** cells[k]: the SETS of the CELLS of k, the lesser first; none from dim on. */
        final int[][] cells;
        /** PLANE numbers a FACET. */
        final long[] planes;
        /** Of each CORNER the SET of those that an EDGE joins with it. */
        final int[] near;
        int turns = NONE;
        /** Null till first asked for. */
        int[] pieces;
        int[] ring;

        Solid(int dim, int scale, int[] places, int[][] cells, long[] planes) {
            this.dim = dim;
            this.scale = scale;
            this.places = places;
            this.cells = cells;
            this.planes = planes;
            corners = cells[0].length;
            near = new int[corners];
            for (int e = 0; e < cells[1].length; e++) {
                int one = leastOf(cells[1][e]);
                int other = leastOf(cells[1][e] & ~(1 << one));
                near[one] |= 1 << other;
                near[other] |= 1 << one;
            }
        }

        boolean hasCorner(int c) {
            return c >= 0 && c < corners;
        }

        int everyCorner() {
            return (1 << corners) - 1;
        }

        int at(int c, int axis) {
            return places[c * AXES + axis];
        }

        int cellCount(int k) {
            return k >= 0 && k < cells.length ? cells[k].length : 0;
        }

        boolean hasCell(int k, int j) {
            return j >= 0 && j < cellCount(k);
        }

        int[] facetSets() {
            return cells[dim - 1];
        }

        int facetCount() {
            return cells[dim - 1].length;
        }

        boolean isSimpleFaced() {
            int[] sets = facetSets();
            for (int f = 0; f < sets.length; f++) {
                if (Integer.bitCount(sets[f]) != dim) {
                    return false;
                }
            }
            return true;
        }

        boolean isEachD() {
            for (int c = 0; c < corners; c++) {
                if (countAround(dim - 1, 1 << c) != dim) {
                    return false;
                }
            }
            return true;
        }

        /** How many CELLS of k lie in the SET. */
        int countWithin(int k, int set) {
            int found = 0;
            for (int j = 0; j < cells[k].length; j++) {
                if ((cells[k][j] & ~set) == 0) {
                    found++;
                }
            }
            return found;
        }

        /** In how many CELLS of k the SET lies. */
        int countAround(int k, int set) {
            int found = 0;
            for (int j = 0; j < cells[k].length; j++) {
                if ((set & ~cells[k][j]) == 0) {
                    found++;
                }
            }
            return found;
        }

        int hCount(int k) {
            int total = 0;
            for (int i = 0; i <= k; i++) {
                int cellsBelow = i == 0 ? 1 : cellCount(i - 1);
                total += signOf(k - i) * waysToTake(dim - i, k - i) * cellsBelow;
            }
            return total;
        }

        /** n over m; each step's product is whole: it is a number of ways itself. */
        private static int waysToTake(int n, int m) {
            if (m < 0 || m > n) {
                return 0;
            }
            int ways = 1;
            for (int step = 1; step <= m; step++) {
                ways = ways * (n - m + step) / step;
            }
            return ways;
        }

        int farthest() {
            int most = 0;
            for (int p = 0; p < places.length; p++) {
                most = Math.max(most, Math.abs(places[p]));
            }
            return most;
        }

        /** Below 0 on the body's side of FACET f's plane, 0 on it, above 0 beyond. */
        private long beyond(int f, int[] spots, int at) {
            int p = f * PLANE;
            return planes[p] * spots[at] + planes[p + 1] * spots[at + 1] + planes[p + 2] * spots[at + 2]
                    + planes[p + 3] * spots[at + 3] - planes[p + 4];
        }

        /** The first FACET that parts the place from the body, or NONE: it is not OUT. */
        int firstBeyond(int[] spots, int at) {
            for (int f = 0; f < facetCount(); f++) {
                if (beyond(f, spots, at) > 0) {
                    return f;
                }
            }
            return NONE;
        }

        /** WHERE the place is: all FACETS that have it have just its least CELL in common. */
        int cellAround(int[] spots, int at) {
            if (firstBeyond(spots, at) != NONE) {
                return NONE;
            }
            int common = everyCorner();
            for (int f = 0; f < facetCount(); f++) {
                if (beyond(f, spots, at) == 0) {
                    common &= cells[dim - 1][f];
                }
            }
            for (int k = 0; k < dim; k++) {
                for (int j = 0; j < cells[k].length; j++) {
                    if (cells[k][j] == common) {
                        return k;
                    }
                }
            }
            return dim;
        }

        int[] piecesOf() {
            if (pieces == null) {
                int[] found = new int[PIECE_MAX];
                int held = cutCell(this, dim, everyCorner(), 0, found, 0);
                pieces = Arrays.copyOf(found, held);
            }
            return pieces;
        }

        /** PIECES of a CELL of k, each with the CORNERS cut from before; k falls by one a level, from 4 at most. */
        private static int cutCell(Solid solid, int k, int cell, int before, int[] found, int held) {
            if (Integer.bitCount(cell) == k + 1 || k < 1) {
                if (held >= found.length) {
                    return held;
                }
                found[held] = cell | before;
                return held + 1;
            }
            int least = cell & -cell;
            int[] sides = solid.cells[k - 1];
            int now = held;
            for (int j = 0; j < sides.length; j++) {
                if ((sides[j] & ~cell) == 0 && (sides[j] & least) == 0) {
                    now = cutCell(solid, k - 1, sides[j], before | least, found, now);
                }
            }
            return now;
        }
    }

    /** Makes a BODY of POINTS told one by one; also has the arithmetic of planes and determinants. */
    private static final class Hull {
        /** C(16, 4): no dimension has more choices of its number of POINTS. */
        private static final int CHOICE_MAX = 1820;
        private static final int BOTH_SIDES = -1;

        final int[] told = new int[POINT_MAX * AXES];
        int toldCount;
        /** Whether more POINTS were told than there is room for. */
        boolean over;
        int dim = 2;
        final int[] sets = new int[FACET_MAX];
        final long[] planes = new long[FACET_MAX * PLANE];
        int facets;
        /** Four rows of four numbers. */
        final long[] rows = new long[AXES * AXES];
        final long[] plane = new long[PLANE];
        final int[] ranks = new int[FACET_MAX];
        final int[] found = new int[RIDGE_MAX];

        void begin(int d) {
            dim = d;
            toldCount = 0;
            over = false;
        }

        /** A POINT more, unless there is one alike; numbers beyond the dimension are not looked at. */
        void tell(int x0, int x1, int x2, int x3) {
            int y2 = dim > 2 ? x2 : 0;
            int y3 = dim > 3 ? x3 : 0;
            for (int p = 0; p < toldCount; p++) {
                int at = p * AXES;
                if (told[at] == x0 && told[at + 1] == x1 && told[at + 2] == y2 && told[at + 3] == y3) {
                    return;
                }
            }
            if (toldCount >= POINT_MAX) {
                over = true;
                return;
            }
            int at = toldCount * AXES;
            told[at] = x0;
            told[at + 1] = x1;
            told[at + 2] = y2;
            told[at + 3] = y3;
            toldCount++;
        }

        void tellTimes(int[] spots, int at, int times) {
            tell(spots[at] * times, spots[at + 1] * times, spots[at + 2] * times, spots[at + 3] * times);
        }

        void tellAll(Solid from, int times) {
            for (int c = 0; c < from.corners; c++) {
                tellTimes(from.places, c * AXES, times);
            }
        }

        void tellWithout(int[] spots, int at, int axis) {
            int x0 = spots[axis > 0 ? at : at + 1];
            int x1 = spots[axis > 1 ? at + 1 : at + 2];
            int x2 = spots[axis > 2 ? at + 2 : at + 3];
            tell(x0, x1, x2, 0);
        }

        /** With the height on the axis behind the lower body's own. */
        private void tellAbove(int lowerDim, int x0, int x1, int x2, int height) {
            if (lowerDim == 2) {
                tell(x0, x1, height, 0);
            } else {
                tell(x0, x1, x2, height);
            }
        }

        void tellLid(Solid from, int height) {
            for (int c = 0; c < from.corners; c++) {
                tellAbove(from.dim, from.at(c, 0), from.at(c, 1), from.at(c, 2), height);
            }
        }

        /** The sum of the first CORNERS, lifted: of one alone, or of all. */
        void tellTip(Solid from, int summed, int height) {
            int x0 = 0;
            int x1 = 0;
            int x2 = 0;
            for (int c = 0; c < summed && c < from.corners; c++) {
                x0 += from.at(c, 0);
                x1 += from.at(c, 1);
                x2 += from.at(c, 2);
            }
            tellAbove(from.dim, x0, x1, x2, height);
        }

        /** The POINTS of a clause of the text, for the dimension that was begun. */
        void tellShape(int kind, int many) {
            if (kind == Script.CUBE) {
                for (int n = 0; n < 1 << dim; n++) {
                    tell(n & 1, n >> 1 & 1, n >> 2 & 1, n >> 3 & 1);
                }
            } else if (kind == Script.ROUND) {
                for (int t = 0; t < many; t++) {
                    tell(t, t * t, t * t * t, t * t * t * t);
                }
            } else {
                if (kind == Script.CORNER) {
                    tell(0, 0, 0, 0);
                }
                for (int axis = 0; axis < dim; axis++) {
                    tellUnit(axis, 1);
                    if (kind == Script.CROSS) {
                        tellUnit(axis, -1);
                    }
                }
            }
        }

        private void tellUnit(int axis, int x) {
            tell(axis == 0 ? x : 0, axis == 1 ? x : 0, axis == 2 ? x : 0, axis == 3 ? x : 0);
        }

        /** Finds all FACETS as SETS of told POINTS; false, if these are flat. */
        boolean findFacets() {
            facets = 0;
            int end = 1 << toldCount;
            int few = (1 << dim) - 1;
            for (int choice = 0; choice < CHOICE_MAX && few < end; choice++) {
                if (!isInFacet(few) && spanPlane(few)) {
                    int on = setOnPlane();
                    if (on == end - 1) {
                        facets = 0;
                        return false;
                    }
                    if (on != BOTH_SIDES) {
                        keepFacet(on);
                    }
                }
                few = nextChoice(few);
            }
            return facets > dim;
        }

        /** The next greater number with as many bits. */
        private static int nextChoice(int few) {
            int carried = few + (few & -few);
            return carried | (few ^ carried) >>> 2 + leastOf(few);
        }

        private boolean isInFacet(int few) {
            for (int f = 0; f < facets; f++) {
                if ((few & ~sets[f]) == 0) {
                    return true;
                }
            }
            return false;
        }

        private void keepFacet(int on) {
            if (facets < FACET_MAX) {
                sets[facets] = on;
                System.arraycopy(plane, 0, planes, facets * PLANE, PLANE);
                facets++;
            }
        }

        private void rowBetween(int row, int[] spots, int to, int from) {
            for (int axis = 0; axis < AXES; axis++) {
                rows[row * AXES + axis] = spots[to * AXES + axis] - spots[from * AXES + axis];
            }
        }

        private void rowOfUnit(int row, int unit) {
            for (int axis = 0; axis < AXES; axis++) {
                rows[row * AXES + axis] = axis == unit ? 1 : 0;
            }
        }

        /** Rows from the least of the SET to each of its others; how many rows. */
        private int rowsWithin(int set, int[] spots) {
            int base = leastOf(set);
            int rest = set & set - 1;
            int row = 0;
            for (int p = base + 1; p < POINT_MAX && row < AXES; p++) {
                if ((rest >> p & 1) != 0) {
                    rowBetween(row, spots, p, base);
                    row++;
                }
            }
            return row;
        }

        /** The plane through dim POINTS; units on the axes beyond keep it upright there. False, if there is none. */
        private boolean spanPlane(int few) {
            for (int row = rowsWithin(few, told); row < AXES - 1; row++) {
                rowOfUnit(row, row + 1);
            }
            crossRows();
            int at = leastOf(few) * AXES;
            plane[4] = plane[0] * told[at] + plane[1] * told[at + 1] + plane[2] * told[at + 2]
                    + plane[3] * told[at + 3];
            return plane[0] != 0 || plane[1] != 0 || plane[2] != 0 || plane[3] != 0;
        }

        /** Into plane[0 .. 3]: the row at right angles to the first three, by which they are a determinant. */
        private void crossRows() {
            long m01 = rows[4] * rows[9] - rows[5] * rows[8];
            long m02 = rows[4] * rows[10] - rows[6] * rows[8];
            long m03 = rows[4] * rows[11] - rows[7] * rows[8];
            long m12 = rows[5] * rows[10] - rows[6] * rows[9];
            long m13 = rows[5] * rows[11] - rows[7] * rows[9];
            long m23 = rows[6] * rows[11] - rows[7] * rows[10];
            plane[0] = rows[1] * m23 - rows[2] * m13 + rows[3] * m12;
            plane[1] = -(rows[0] * m23 - rows[2] * m03 + rows[3] * m02);
            plane[2] = rows[0] * m13 - rows[1] * m03 + rows[3] * m01;
            plane[3] = -(rows[0] * m12 - rows[1] * m02 + rows[2] * m01);
        }

        /** The told POINTS on the plane, all others being on one side, to which it is turned; else BOTH_SIDES. */
        private int setOnPlane() {
            int on = 0;
            boolean below = false;
            boolean above = false;
            for (int p = 0; p < toldCount; p++) {
                int at = p * AXES;
                long level = plane[0] * told[at] + plane[1] * told[at + 1] + plane[2] * told[at + 2]
                        + plane[3] * told[at + 3] - plane[4];
                if (level == 0) {
                    on |= 1 << p;
                } else if (level < 0) {
                    below = true;
                } else {
                    above = true;
                }
                if (below && above) {
                    return BOTH_SIDES;
                }
            }
            if (above) {
                for (int k = 0; k < PLANE; k++) {
                    plane[k] = -plane[k];
                }
            }
            return on;
        }

        /** SIZE of a PIECE. */
        long sizeOf(Solid solid, int piece) {
            for (int row = rowsWithin(piece, solid.places); row < AXES; row++) {
                rowOfUnit(row, row);
            }
            crossRows();
            return Math.abs(plane[0] * rows[12] + plane[1] * rows[13] + plane[2] * rows[14] + plane[3] * rows[15]);
        }

        /** The BODY of the FACETS found last. */
        Solid make(int scale) {
            int kept = cornerSet();
            int corners = Integer.bitCount(kept);
            int[] places = new int[corners * AXES];
            int next = 0;
            for (int p = 0; p < toldCount; p++) {
                if ((kept >> p & 1) != 0) {
                    System.arraycopy(told, p * AXES, places, next * AXES, AXES);
                    next++;
                }
            }
            for (int f = 0; f < facets; f++) {
                sets[f] = squeeze(sets[f], kept);
            }
            rankFacets();
            int[] facetSets = new int[facets];
            long[] facetPlanes = new long[facets * PLANE];
            for (int f = 0; f < facets; f++) {
                facetSets[f] = sets[ranks[f]];
                System.arraycopy(planes, ranks[f] * PLANE, facetPlanes, f * PLANE, PLANE);
            }
            return new Solid(dim, scale, places, allCells(corners, facetSets), facetPlanes);
        }

        /** A POINT is a CORNER, if the FACETS that have it have nothing else in common. */
        private int cornerSet() {
            int kept = 0;
            for (int p = 0; p < toldCount; p++) {
                if (commonTo(1 << p, sets, facets) == 1 << p) {
                    kept |= 1 << p;
                }
            }
            return kept;
        }

        /** What the FACETS that have all of a SET have in common. */
        private static int commonTo(int set, int[] facetSets, int many) {
            int common = -1;
            for (int f = 0; f < many && common != set; f++) {
                if ((set & ~facetSets[f]) == 0) {
                    common &= facetSets[f];
                }
            }
            return common;
        }

        /** The SET renumbered, as those alone have numbers that are kept. */
        private static int squeeze(int set, int kept) {
            int squeezed = 0;
            int next = 0;
            for (int p = 0; p < POINT_MAX; p++) {
                if ((kept >> p & 1) != 0) {
                    squeezed |= (set >> p & 1) << next;
                    next++;
                }
            }
            return squeezed;
        }

        private void rankFacets() {
            for (int f = 0; f < facets; f++) {
                int to = f;
                while (to > 0 && sets[ranks[to - 1]] > sets[f]) {
                    ranks[to] = ranks[to - 1];
                    to--;
                }
                ranks[to] = f;
            }
        }

        private int[][] allCells(int corners, int[] facetSets) {
            int[][] cells = new int[AXES][];
            cells[0] = new int[corners];
            for (int c = 0; c < corners; c++) {
                cells[0][c] = 1 << c;
            }
            cells[1] = dim == 2 ? facetSets : edges(corners, facetSets);
            cells[2] = dim == 3 ? facetSets : dim == 4 ? ridges(facetSets) : new int[0];
            cells[3] = dim == 4 ? facetSets : new int[0];
            return cells;
        }

        private int[] edges(int corners, int[] facetSets) {
            int held = 0;
            for (int high = 1; high < corners; high++) {
                for (int low = 0; low < high; low++) {
                    int pair = 1 << high | 1 << low;
                    if (commonTo(pair, facetSets, facetSets.length) == pair && held < found.length) {
                        found[held] = pair;
                        held++;
                    }
                }
            }
            return Arrays.copyOf(found, held);
        }

        /** In four dimensions two FACETS with three CORNERS in common have a RIDGE in common, no others the same. */
        private int[] ridges(int[] facetSets) {
            int held = 0;
            for (int f = 1; f < facetSets.length; f++) {
                for (int g = 0; g < f; g++) {
                    int common = facetSets[f] & facetSets[g];
                    if (Integer.bitCount(common) >= 3 && held < found.length) {
                        insertFound(common, held);
                        held++;
                    }
                }
            }
            return Arrays.copyOf(found, held);
        }

        private void insertFound(int set, int held) {
            int to = held;
            while (to > 0 && found[to - 1] > set) {
                found[to] = found[to - 1];
                to--;
            }
            found[to] = set;
        }
    }

    /** CUT and SLICE: how high each CORNER is over the plane of the cut, and the places on EDGES between. */
    private static final class Section {
        /** A fraction with this SCALE or more goes beyond 999: its denominator is below 72000. */
        private static final long SCALE_MAX = 999L * 72000L;
        /** Euclid's steps for numbers of fewer than 63 bits. */
        private static final int STEP_MAX = 100;

        Solid from;
        final int[] levels = new int[POINT_MAX];
        /** The axis that a SLICE leaves out; NONE: a CUT. */
        int dropped = NONE;
        long scale = 1;
        final long[] spot = new long[AXES];

        void aimHalf(Solid solid, int a0, int a1, int a2, int a3, int b) {
            from = solid;
            dropped = NONE;
            for (int c = 0; c < solid.corners; c++) {
                levels[c] = a0 * solid.at(c, 0) + a1 * solid.at(c, 1) + a2 * solid.at(c, 2) + a3 * solid.at(c, 3) - b;
            }
        }

        void aimLayer(Solid solid, int axis, int level) {
            from = solid;
            dropped = axis;
            for (int c = 0; c < solid.corners; c++) {
                levels[c] = solid.at(c, axis) - level;
            }
        }

        /** A CUT needs a CORNER below; a SLICE one below and one above, or all of a FACET in it. */
        boolean isFlat() {
            int below = 0;
            int on = 0;
            for (int c = 0; c < from.corners; c++) {
                below |= levels[c] < 0 ? 1 << c : 0;
                on |= levels[c] == 0 ? 1 << c : 0;
            }
            if (dropped == NONE) {
                return below == 0;
            }
            if (below != 0 && (below | on) != from.everyCorner()) {
                return false;
            }
            int[] facetSets = from.facetSets();
            for (int f = 0; f < facetSets.length; f++) {
                if (facetSets[f] == on) {
                    return false;
                }
            }
            return true;
        }

        private boolean isKept(int c) {
            return dropped == NONE ? levels[c] <= 0 : levels[c] == 0;
        }

        private boolean isCrossed(int edge) {
            int one = levels[leastOf(edge)];
            int other = levels[leastOf(edge & edge - 1)];
            return one < 0 && other > 0 || one > 0 && other < 0;
        }

        int pointCount() {
            int points = 0;
            for (int c = 0; c < from.corners; c++) {
                points += isKept(c) ? 1 : 0;
            }
            int[] edges = from.cells[1];
            for (int e = 0; e < edges.length; e++) {
                points += isCrossed(edges[e]) ? 1 : 0;
            }
            return points;
        }

        /** How far apart in height the ends of a crossed EDGE are: what its place is to be divided by. */
        private long span(int edge) {
            return Math.abs(levels[leastOf(edge)] - levels[leastOf(edge & edge - 1)]);
        }

        /** Coordinate of the place on a crossed EDGE, times its span. */
        private long crossing(int edge, int axis) {
            int low = leastOf(edge);
            int high = leastOf(edge & edge - 1);
            if (levels[low] > 0) {
                int other = low;
                low = high;
                high = other;
            }
            return (long) from.at(low, axis) * levels[high] - (long) from.at(high, axis) * levels[low];
        }

        /** Finds the SCALE; false, if with it a coordinate would go beyond 999 for certain. */
        boolean findScale() {
            scale = 1;
            int[] edges = from.cells[1];
            for (int e = 0; e < edges.length; e++) {
                for (int axis = 0; axis < from.dim && isCrossed(edges[e]); axis++) {
                    if (axis != dropped) {
                        long span = span(edges[e]);
                        long needed = divided(span, commonMeasure(crossing(edges[e], axis), span));
                        scale = divided(scale, commonMeasure(scale, needed)) * needed;
                    }
                    if (scale > SCALE_MAX) {
                        return false;
                    }
                }
            }
            return true;
        }

        private static long divided(long number, long divisor) {
            return divisor == 0 ? 0 : number / divisor;
        }

        private static long commonMeasure(long one, long other) {
            long a = Math.abs(one);
            long b = Math.abs(other);
            for (int step = 0; step < STEP_MAX && b != 0; step++) {
                long rest = a % b;
                a = b;
                b = rest;
            }
            return a;
        }

        /** Tells the hull all places, times SCALE; false, if a coordinate goes beyond 999. */
        boolean tellTo(Hull hull) {
            hull.begin(dropped == NONE ? from.dim : from.dim - 1);
            boolean fits = true;
            for (int c = 0; c < from.corners && fits; c++) {
                if (isKept(c)) {
                    for (int axis = 0; axis < AXES; axis++) {
                        spot[axis] = from.at(c, axis) * scale;
                    }
                    fits = tellSpot(hull);
                }
            }
            int[] edges = from.cells[1];
            for (int e = 0; e < edges.length && fits; e++) {
                if (isCrossed(edges[e])) {
                    for (int axis = 0; axis < AXES; axis++) {
                        spot[axis] = divided(crossing(edges[e], axis) * scale, span(edges[e]));
                    }
                    fits = tellSpot(hull);
                }
            }
            return fits;
        }

        private boolean tellSpot(Hull hull) {
            if (dropped != NONE) {
                for (int axis = dropped; axis < AXES - 1; axis++) {
                    spot[axis] = spot[axis + 1];
                }
                spot[AXES - 1] = 0;
            }
            for (int axis = 0; axis < AXES; axis++) {
                if (Math.abs(spot[axis]) > REACH) {
                    return false;
                }
            }
            hull.tell((int) spot[0], (int) spot[1], (int) spot[2], (int) spot[3]);
            return true;
        }
    }

    /** Counts the renamings by which SETS of one kind become just the FACETS of a BODY. */
    private static final class Matcher {
        /** More renamings than any BODY of 16 CORNERS has to itself. */
        static final int ALL = 1000000;

        final int[] sets = new int[FACET_MAX];
        int held;
        int marks;
        /** How two marks (or a mark with itself) share SETS; what a renaming must keep. */
        final int[] shared = new int[POINT_MAX * POINT_MAX];
        final int[] goalShared = new int[POINT_MAX * POINT_MAX];
        int[] goal;
        int limit;
        final int[] order = new int[POINT_MAX];
        final int[] image = new int[POINT_MAX];
        /** SETS by when they are complete: those from starts[d] to starts[d + 1] with the mark order[d]. */
        final int[] complete = new int[FACET_MAX];
        final int[] starts = new int[POINT_MAX + 1];
        final int[] scores = new int[POINT_MAX];

        void fromSets(int markCount, int[] from, int many) {
            marks = markCount;
            held = Math.min(many, Math.min(from.length, FACET_MAX));
            System.arraycopy(from, 0, sets, 0, held);
        }

        /** FACETS as marks, and of each CORNER the SET of FACETS that have it. */
        void fromCorners(Solid solid) {
            int[] facetSets = solid.facetSets();
            marks = Math.min(facetSets.length, POINT_MAX);
            held = solid.corners;
            for (int c = 0; c < held; c++) {
                sets[c] = 0;
                for (int f = 0; f < marks; f++) {
                    sets[c] |= (facetSets[f] >> c & 1) << f;
                }
            }
        }

        /** How many renamings there are onto the goal's SETS (the lesser first), counted up to most. */
        int countOnto(int goalMarks, int[] goalSets, int most) {
            if (goalMarks != marks || goalSets.length != held) {
                return 0;
            }
            goal = goalSets;
            limit = most;
            share(sets, shared);
            share(goalSets, goalShared);
            chooseOrder();
            return extend(this, 0, 0, 0);
        }

        private void share(int[] from, int[] into) {
            Arrays.fill(into, 0);
            for (int s = 0; s < held; s++) {
                int size = Integer.bitCount(from[s]);
                int weight = 1000 + size * size;
                for (int left = from[s]; left != 0; left &= left - 1) {
                    int one = leastOf(left);
                    for (int rest = from[s]; rest != 0; rest &= rest - 1) {
                        into[one * POINT_MAX + leastOf(rest)] += weight;
                    }
                }
            }
        }

        /** Next comes always the mark that is most bound by those ahead, so that wrong beginnings end early. */
        private void chooseOrder() {
            int placed = 0;
            int filled = 0;
            for (int depth = 0; depth < marks; depth++) {
                int best = bestNext(placed);
                placed |= 1 << best;
                order[depth] = best;
                starts[depth] = filled;
                for (int s = 0; s < held; s++) {
                    if ((sets[s] >> best & 1) != 0 && (sets[s] & ~placed) == 0 && filled < FACET_MAX) {
                        complete[filled] = sets[s];
                        filled++;
                    }
                }
            }
            starts[marks] = filled;
        }

        private int bestNext(int placed) {
            Arrays.fill(scores, 0);
            for (int s = 0; s < held; s++) {
                int worth = 1 << 2 * Math.min(8, Integer.bitCount(sets[s] & placed));
                for (int rest = sets[s] & ~placed; rest != 0; rest &= rest - 1) {
                    scores[leastOf(rest)] += worth;
                }
            }
            int best = leastOf(~placed);
            for (int mark = 0; mark < marks; mark++) {
                if ((placed >> mark & 1) == 0 && scores[mark] > scores[best]) {
                    best = mark;
                }
            }
            return best;
        }

        /** Names one mark a level: 16 levels at most. */
        private static int extend(Matcher m, int depth, int used, int found) {
            if (depth >= m.marks) {
                return found + 1;
            }
            int now = found;
            for (int name = 0; name < m.marks && now < m.limit; name++) {
                if ((used >> name & 1) == 0 && m.fits(depth, name)) {
                    now = extend(m, depth + 1, used | 1 << name, now);
                }
            }
            return now;
        }

        private boolean fits(int depth, int name) {
            int mark = order[depth];
            image[mark] = name;
            for (int d = 0; d <= depth; d++) {
                int ahead = order[d];
                if (shared[mark * POINT_MAX + ahead] != goalShared[name * POINT_MAX + image[ahead]]) {
                    return false;
                }
            }
            for (int s = starts[depth]; s < starts[depth + 1]; s++) {
                if (!isGoal(renamed(complete[s]))) {
                    return false;
                }
            }
            return true;
        }

        private int renamed(int set) {
            int out = 0;
            for (int rest = set; rest != 0; rest &= rest - 1) {
                out |= 1 << image[leastOf(rest)];
            }
            return out;
        }

        private boolean isGoal(int set) {
            int low = 0;
            int high = goal.length;
            while (low < high) {
                int middle = low + high >>> 1;
                if (goal[middle] < set) {
                    low = middle + 1;
                } else {
                    high = middle;
                }
            }
            return low < goal.length && goal[low] == set;
        }
    }

    /** THE PATTERN. */
    private static final class Plan {
        static final int MARK_MAX = 12;
        private static final int SET_MAX = 24;

        int marks = 3;
        final int[] sets = new int[SET_MAX];
        int held;

        /** How many corners its SETS have; 0, if there are none. */
        int setSize() {
            return held == 0 ? 0 : Integer.bitCount(sets[0]);
        }

        boolean admits(int set) {
            for (int s = 0; s < held; s++) {
                if (sets[s] == set) {
                    return false;
                }
            }
            return held == 0 || Integer.bitCount(set) == setSize();
        }

        boolean add(int set) {
            if (held >= SET_MAX) {
                return false;
            }
            sets[held] = set;
            held++;
            return true;
        }

        /** The first LAW that it does not meet; 0: it meets all. */
        int firstBroken(int d) {
            if (!usesAllMarks()) {
                return 1;
            }
            if (!partsAreInTwo()) {
                return 2;
            }
            if (!isOnePiece(d)) {
                return 3;
            }
            return signedParts(d) == 1 - signOf(d) ? 0 : 4;
        }

        private boolean usesAllMarks() {
            int used = 0;
            for (int s = 0; s < held; s++) {
                used |= sets[s];
            }
            return used == (1 << marks) - 1;
        }

        private int setsAround(int part) {
            int found = 0;
            for (int s = 0; s < held; s++) {
                if ((part & ~sets[s]) == 0) {
                    found++;
                }
            }
            return found;
        }

        private boolean partsAreInTwo() {
            for (int s = 0; s < held; s++) {
                for (int rest = sets[s]; rest != 0; rest &= rest - 1) {
                    if (setsAround(sets[s] & ~(rest & -rest)) != 2) {
                        return false;
                    }
                }
            }
            return true;
        }

        /** Each round comes to one SET more at least, or none is left to come to. */
        private boolean isOnePiece(int d) {
            int reached = 1;
            for (int round = 0; round < held; round++) {
                for (int s = 0; s < held; s++) {
                    if ((reached >> s & 1) == 0 && touches(s, reached, d)) {
                        reached |= 1 << s;
                    }
                }
            }
            return reached == (1 << held) - 1;
        }

        private boolean touches(int s, int reached, int d) {
            for (int other = 0; other < held; other++) {
                if ((reached >> other & 1) != 0 && Integer.bitCount(sets[s] & sets[other]) == d - 1) {
                    return true;
                }
            }
            return false;
        }

        private int signedParts(int d) {
            int total = 0;
            for (int part = 1; part < 1 << marks; part++) {
                int size = Integer.bitCount(part);
                if (size <= d && setsAround(part) > 0) {
                    total += signOf(size - 1);
                }
            }
            return total;
        }
    }

    /** THE ROW. */
    private static final class FacetRow {
        final int[] facets = new int[ROW_MAX];
        int held;

        boolean has(int facet) {
            for (int j = 0; j < held; j++) {
                if (facets[j] == facet) {
                    return true;
                }
            }
            return false;
        }

        boolean add(int facet) {
            if (held >= ROW_MAX) {
                return false;
            }
            facets[held] = facet;
            held++;
            return true;
        }

        /** Whether the BODY has all its FACETS. */
        boolean isOf(Solid solid) {
            for (int j = 0; j < held; j++) {
                if (facets[j] >= solid.facetCount()) {
                    return false;
                }
            }
            return true;
        }

        int firstUnmet(Solid solid) {
            for (int j = 1; j < held; j++) {
                if (!meetsAt(solid, j)) {
                    return j;
                }
            }
            return NONE;
        }

        /** An i ahead is answered by a k that lacks one CORNER alone, and one that FACET i lacks, too. */
        private boolean meetsAt(Solid solid, int j) {
            int[] sets = solid.facetSets();
            int spared = sparedAt(solid, j);
            for (int i = 0; i < j; i++) {
                if ((spared & ~sets[facets[i]]) == 0) {
                    return false;
                }
            }
            return true;
        }

        int placesWithNew(Solid solid, int wanted) {
            int found = 0;
            for (int j = 0; j < held; j++) {
                if (Integer.bitCount(sparedAt(solid, j)) == wanted) {
                    found++;
                }
            }
            return found;
        }

        /** The CORNERS of FACET j without which it lies in a FACET ahead. */
        private int sparedAt(Solid solid, int j) {
            int[] sets = solid.facetSets();
            int own = sets[facets[j]];
            int spared = 0;
            for (int k = 0; k < j; k++) {
                int missing = own & ~sets[facets[k]];
                if (Integer.bitCount(missing) == 1) {
                    spared |= missing;
                }
            }
            return spared;
        }
    }

    /** WALKS by EDGES, the TILT and RINGS. */
    private static final class Walker {
        private final int[] tilts = new int[AXES];
        private final long[] ways = new long[POINT_MAX];
        /** Where the latest climb ended, and by how many EDGES. */
        int top;
        int climbed;
        /** Null till a RING is first asked for. */
        private int[] finishing;

        /** How many EDGES it takes till all of the goal have been come to. */
        int steps(Solid solid, int from, int goal) {
            int reached = 1 << from;
            int taken = 0;
            while ((goal & ~reached) != 0 && taken < solid.corners) {
                int wider = reached;
                for (int rest = reached; rest != 0; rest &= rest - 1) {
                    wider |= solid.near[leastOf(rest)];
                }
                reached = wider;
                taken++;
            }
            return taken;
        }

        void lean(int t0, int t1, int t2, int t3) {
            tilts[0] = t0;
            tilts[1] = t1;
            tilts[2] = t2;
            tilts[3] = t3;
        }

        int height(Solid solid, int c) {
            return tilts[0] * solid.at(c, 0) + tilts[1] * solid.at(c, 1) + tilts[2] * solid.at(c, 2)
                    + tilts[3] * solid.at(c, 3);
        }

        void climb(Solid solid, int from) {
            top = from;
            climbed = 0;
            int next = highestBeside(solid, top);
            while (next != top && climbed < solid.corners) {
                top = next;
                climbed++;
                next = highestBeside(solid, top);
            }
        }

        /** The CORNER itself, if none beside it is higher. */
        private int highestBeside(Solid solid, int c) {
            int best = c;
            for (int rest = solid.near[c]; rest != 0; rest &= rest - 1) {
                int other = leastOf(rest);
                if (height(solid, other) > height(solid, best)) {
                    best = other;
                }
            }
            return best;
        }

        /** From the lowest CORNER on each hands its ways to those beside it that are higher. */
        long countUp(Solid solid, int from, int to) {
            Arrays.fill(ways, 0);
            ways[from] = 1;
            int left = solid.everyCorner();
            for (int round = 0; round < solid.corners; round++) {
                int lowest = lowestOf(solid, left);
                left &= ~(1 << lowest);
                for (int rest = solid.near[lowest]; rest != 0; rest &= rest - 1) {
                    int other = leastOf(rest);
                    if (height(solid, other) > height(solid, lowest)) {
                        ways[other] += ways[lowest];
                    }
                }
            }
            return ways[to];
        }

        private int lowestOf(Solid solid, int left) {
            int lowest = leastOf(left);
            for (int rest = left; rest != 0; rest &= rest - 1) {
                int other = leastOf(rest);
                if (height(solid, other) < height(solid, lowest)) {
                    lowest = other;
                }
            }
            return lowest;
        }

        /** The first RING, kept with the BODY (at most RING_MAX CORNERS); of no length, if there is none. */
        int[] ringOf(Solid solid) {
            if (solid.ring == null) {
                fillFinishing(solid);
                boolean some = (finishing[0] & 1) != 0;
                solid.ring = new int[some ? solid.corners : 0];
                int last = 0;
                int seen = 1;
                for (int k = 1; k < solid.ring.length; k++) {
                    last = leastOf(goodNext(solid, last, seen));
                    seen |= 1 << last;
                    solid.ring[k] = last;
                }
            }
            return solid.ring;
        }

        /** finishing[seen / 2]: the CORNERS from which the rest can be walked and ended beside CORNER 0. */
        private void fillFinishing(Solid solid) {
            if (finishing == null) {
                finishing = new int[1 << RING_MAX - 1];
            }
            int every = solid.everyCorner();
            finishing[every >> 1] = solid.near[0];
            for (int seen = every - 2; seen > 0; seen -= 2) {
                int good = 0;
                int ends = seen == 1 ? 1 : seen & ~1;
                for (int rest = ends; rest != 0; rest &= rest - 1) {
                    if (goodNext(solid, leastOf(rest), seen) != 0) {
                        good |= rest & -rest;
                    }
                }
                finishing[seen >> 1] = good;
            }
        }

        private int goodNext(Solid solid, int last, int seen) {
            int good = 0;
            for (int rest = solid.near[last] & ~seen; rest != 0; rest &= rest - 1) {
                int step = rest & -rest;
                good |= finishing[(seen | step) >> 1] & step;
            }
            return good;
        }
    }

    /** WHOLE places, counted line by line along the longest side of the box. */
    private static final class Lattice {
        private Solid solid;
        private int stretch;
        /** 1 where a place on a plane does not count. */
        private int gap;
        private final int[] low = new int[AXES];
        private final int[] high = new int[AXES];
        private final int[] spot = new int[AXES];

        void aim(Solid body, int times, int inner) {
            solid = body;
            stretch = times;
            gap = inner;
            for (int axis = 0; axis < AXES; axis++) {
                low[axis] = body.at(0, axis) * times;
                high[axis] = low[axis];
                for (int c = 1; c < body.corners; c++) {
                    low[axis] = Math.min(low[axis], body.at(c, axis) * times);
                    high[axis] = Math.max(high[axis], body.at(c, axis) * times);
                }
            }
        }

        private int sideOf(int axis) {
            return high[axis] - low[axis] + 1;
        }

        long boxPlaces() {
            return (long) sideOf(0) * sideOf(1) * sideOf(2) * sideOf(3);
        }

        int countPlaces() {
            int line = 0;
            for (int axis = 1; axis < AXES; axis++) {
                line = sideOf(axis) > sideOf(line) ? axis : line;
            }
            int a = line == 0 ? 1 : 0;
            int b = line <= 1 ? 2 : 1;
            int c = line <= 2 ? 3 : 2;
            int total = 0;
            for (int x = low[a]; x <= high[a]; x++) {
                spot[a] = x;
                for (int y = low[b]; y <= high[b]; y++) {
                    spot[b] = y;
                    for (int z = low[c]; z <= high[c]; z++) {
                        spot[c] = z;
                        total += placesOnLine(line);
                    }
                }
            }
            return total;
        }

        /** Each FACET's plane bounds the line on one side, or leaves all or nothing of it. */
        private int placesOnLine(int line) {
            long first = low[line];
            long last = high[line];
            spot[line] = 0;
            long[] planes = solid.planes;
            for (int p = 0; p + PLANE <= planes.length && first <= last; p += PLANE) {
                long room = planes[p + 4] * stretch - gap - planes[p] * spot[0] - planes[p + 1] * spot[1]
                        - planes[p + 2] * spot[2] - planes[p + 3] * spot[3];
                long slope = planes[p + line];
                if (slope > 0) {
                    last = Math.min(last, Math.floorDiv(room, slope));
                } else if (slope < 0) {
                    first = Math.max(first, -Math.floorDiv(room, -slope));
                } else if (room < 0) {
                    return 0;
                }
            }
            return first <= last ? (int) (last - first + 1) : 0;
        }
    }

    /** THE TEXT and its clauses. */
    private static final class Script {
        static final int CUBE = 0;
        static final int CROSS = 1;
        static final int CORNER = 2;
        static final int ROUND = 3;
        static final int CLAIM = 4;
        private static final int TEXT_MAX = 160;
        /** A clause has six bytes at least. */
        private static final int CLAUSE_MAX = TEXT_MAX / 6 + 1;
        private static final int PARTS = 5;
        private static final int BLANK = 32;

        private final int[] text = new int[TEXT_MAX];
        int length;
        private int at;
        private int claimCount;
        /** A kind, then of a BODY: N, M; of a CLAIM: B (NONE: all), K, the sign, V. */
        private final int[] parts = new int[CLAUSE_MAX * PARTS];
        int clauses;
        int faultKind;
        int faultAt = NONE;

        boolean append(int n, long bytes) {
            if (length + n > TEXT_MAX) {
                return false;
            }
            for (int k = n - 1; k >= 0; k--) {
                text[length] = (int) (bytes >> 8 * k & 255);
                length++;
            }
            return true;
        }

        int part(int clause, int which) {
            int k = clause * PARTS + which;
            return k >= 0 && k < parts.length ? parts[k] : 0;
        }

        private void put(int which, int value) {
            int k = clauses * PARTS + which;
            if (k >= 0 && k < parts.length) {
                parts[k] = value;
            }
        }

        /** Reads all clauses, or as far as the first FAULT. */
        void parse(int claimsThere) {
            at = 0;
            clauses = 0;
            claimCount = claimsThere;
            faultKind = 0;
            faultAt = NONE;
            skipBlanks();
            for (int guard = 0; guard < CLAUSE_MAX && at < length && faultKind == 0; guard++) {
                parseClause();
                needSign(';');
                clauses++;
                skipBlanks();
            }
        }

        private void parseClause() {
            int start = at;
            if (passWord("cube")) {
                parseShape(CUBE);
            } else if (passWord("cross")) {
                parseShape(CROSS);
            } else if (passWord("corner")) {
                parseShape(CORNER);
            } else if (passWord("round")) {
                parseShape(ROUND);
                needWord("of");
                int n = part(clauses, 1);
                put(2, takeNumber(n + 1, n == 2 ? 16 : n == 3 ? 10 : 6));
            } else if (passWord("claim")) {
                parseClaim(start);
            } else {
                fail(1, start);
            }
        }

        private void parseShape(int kind) {
            put(0, kind);
            put(1, takeNumber(2, 4));
            put(2, 0);
        }

        private void parseClaim(int start) {
            claimCount++;
            if (claimCount > Claims.CLAIM_MAX) {
                fail(3, start);
            }
            put(0, CLAIM);
            put(1, passWord("all") ? NONE : takeNumber(0, 99));
            needWord("faces");
            put(2, takeNumber(0, 3));
            put(3, takeCompare());
            put(4, takeNumber(0, 999));
        }

        /** The first FAULT alone counts: all else is read behind it. */
        private void fail(int kind, int where) {
            if (faultKind == 0) {
                faultKind = kind;
                faultAt = where;
            }
        }

        /** The byte here; NONE at the end. */
        private int here() {
            return at < length && at < TEXT_MAX ? text[at] : NONE;
        }

        private void skipBlanks() {
            while (at < length && here() == BLANK) {
                at++;
            }
        }

        /** Goes behind the word, if just that word stands here. */
        private boolean passWord(String word) {
            skipBlanks();
            int end = at;
            while (end < length && text[end] >= 'a' && text[end] <= 'z') {
                end++;
            }
            if (end - at != word.length()) {
                return false;
            }
            for (int k = 0; k < word.length(); k++) {
                if (text[at + k] != word.charAt(k)) {
                    return false;
                }
            }
            at = end;
            return true;
        }

        private void needWord(String word) {
            if (!passWord(word)) {
                fail(1, at);
            }
        }

        private void needSign(int sign) {
            skipBlanks();
            if (here() == sign) {
                at++;
            } else {
                fail(1, at);
            }
        }

        private int takeCompare() {
            skipBlanks();
            int sign = here();
            if (sign == '<' || sign == '>' || sign == '=') {
                at++;
            } else {
                fail(1, at);
            }
            return sign;
        }

        private int takeNumber(int least, int most) {
            skipBlanks();
            int start = at;
            int value = 0;
            while (at < length && here() >= '0' && here() <= '9') {
                value = Math.min(value * 10 + here() - '0', 1000);
                at++;
            }
            if (at == start) {
                fail(1, start);
            } else if (at - start > 3 || value < least || value > most) {
                fail(2, start);
            }
            return value;
        }
    }

    /** CLAIMS. */
    private static final class Claims {
        static final int CLAIM_MAX = 8;
        private static final int PARTS = 4;

        private final int[] parts = new int[CLAIM_MAX * PARTS];
        int held;

        void add(int about, int k, int sign, int value) {
            if (held < CLAIM_MAX) {
                parts[held * PARTS] = about;
                parts[held * PARTS + 1] = k;
                parts[held * PARTS + 2] = sign;
                parts[held * PARTS + 3] = value;
                held++;
            }
        }

        /** The BODY's number that it is about; NONE: all. */
        int bodyOf(int claim) {
            return parts[claim * PARTS];
        }

        boolean isTrueOf(int claim, Solid solid) {
            int cells = solid.cellCount(parts[claim * PARTS + 1]);
            int sign = parts[claim * PARTS + 2];
            int value = parts[claim * PARTS + 3];
            if (sign == '<') {
                return cells < value;
            }
            return sign == '>' ? cells > value : cells == value;
        }
    }
}

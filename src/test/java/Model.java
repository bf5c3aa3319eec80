import java.util.ArrayList;
import java.util.Arrays;
import java.util.Collections;
import java.util.List;
import java.util.TreeSet;
import java.util.regex.Matcher;
import java.util.regex.Pattern;

/**
 * The document once more, written slowly and in other ways than the class, so that the two can be compared: exact
 * fractions for visibility, regular expressions for tokens, plain enumeration for the searches, and no memory of
 * what was worked out before (but for what sees what, by polygon).
 */
final class Model {
    /** The state, never changed once made. */
    static final class State {
        final List<int[]> corners;
        final List<int[]> guards;
        final List<int[]> treasures;
        private List<int[]> points;
        private boolean[][] sees;

        State(List<int[]> corners, List<int[]> guards, List<int[]> treasures) {
            this.corners = corners;
            this.guards = guards;
            this.treasures = treasures;
        }

        List<int[]> points() {
            if (points == null) {
                points = new ArrayList<>();
                for (int y = 0; y <= 15; y++) {
                    for (int x = 0; x <= 15; x++) {
                        if (contains(corners, Fraction.of(x), Fraction.of(y))) {
                            points.add(new int[] {x, y});
                        }
                    }
                }
            }
            return points;
        }

        boolean[][] sees() {
            if (sees == null) {
                int n = points().size();
                sees = new boolean[n][n];
                for (int i = 0; i < n; i++) {
                    for (int j = 0; j < n; j++) {
                        sees[i][j] = j < i ? sees[j][i] : segmentInside(corners, points.get(i), points.get(j));
                    }
                }
            }
            return sees;
        }

        int numberAt(int x, int y) {
            for (int i = 0; i < points().size(); i++) {
                if (points.get(i)[0] == x && points.get(i)[1] == y) {
                    return i;
                }
            }
            return -1;
        }
    }

    static final class Fraction implements Comparable<Fraction> {
        final long top;
        final long bottom;

        Fraction(long top, long bottom) {
            this.top = bottom < 0 ? -top : top;
            this.bottom = Math.abs(bottom);
        }

        static Fraction of(long value) {
            return new Fraction(value, 1);
        }

        static Fraction of(long top, long bottom) {
            return new Fraction(top, bottom);
        }

        private static long product(long a, long b) {
            return Math.multiplyExact(a, b);
        }

        Fraction plus(Fraction o) {
            return new Fraction(Math.addExact(product(top, o.bottom), product(o.top, bottom)), product(bottom, o.bottom));
        }

        Fraction minus(Fraction o) {
            return plus(new Fraction(-o.top, o.bottom));
        }

        Fraction times(Fraction o) {
            return new Fraction(product(top, o.top), product(bottom, o.bottom));
        }

        int sign() {
            return Long.signum(top);
        }

        @Override
        public int compareTo(Fraction o) {
            return Long.compare(product(top, o.bottom), product(o.top, bottom));
        }

        boolean unit() {
            return top >= 0 && top <= bottom;
        }
    }

    private State state;
    private final List<State> past = new ArrayList<>();
    private final State[] saved = new State[2];
    private final StringBuilder buffer = new StringBuilder();
    private int error = 0;
    private int position = -1;
    private String drawn = "";

    // ---- geometry

    static boolean contains(List<int[]> corners, Fraction x, Fraction y) {
        int winding = 0;
        int n = corners.size();
        for (int i = 0; i < n; i++) {
            int[] a = corners.get(i);
            int[] b = corners.get((i + 1) % n);
            Fraction side = Fraction.of(b[0] - a[0]).times(y.minus(Fraction.of(a[1])))
                    .minus(Fraction.of(b[1] - a[1]).times(x.minus(Fraction.of(a[0]))));
            boolean inX = x.compareTo(Fraction.of(Math.min(a[0], b[0]))) >= 0
                    && x.compareTo(Fraction.of(Math.max(a[0], b[0]))) <= 0;
            boolean inY = y.compareTo(Fraction.of(Math.min(a[1], b[1]))) >= 0
                    && y.compareTo(Fraction.of(Math.max(a[1], b[1]))) <= 0;
            if (side.sign() == 0 && inX && inY) {
                return true;
            }
            boolean aLow = Fraction.of(a[1]).compareTo(y) <= 0;
            boolean bLow = Fraction.of(b[1]).compareTo(y) <= 0;
            if (aLow && !bLow && side.sign() > 0) {
                winding++;
            }
            if (!aLow && bLow && side.sign() < 0) {
                winding--;
            }
        }
        return winding != 0;
    }

    static boolean segmentInside(List<int[]> corners, int[] p, int[] q) {
        TreeSet<Fraction> cuts = new TreeSet<>();
        cuts.add(Fraction.of(0));
        cuts.add(Fraction.of(1));
        int dx = q[0] - p[0];
        int dy = q[1] - p[1];
        int n = corners.size();
        for (int i = 0; i < n; i++) {
            int[] a = corners.get(i);
            int[] b = corners.get((i + 1) % n);
            int ex = b[0] - a[0];
            int ey = b[1] - a[1];
            int wedge = dx * ey - dy * ex;
            if (wedge != 0) {
                Fraction t = Fraction.of((a[0] - p[0]) * ey - (a[1] - p[1]) * ex, wedge);
                Fraction u = Fraction.of((a[0] - p[0]) * dy - (a[1] - p[1]) * dx, wedge);
                if (t.unit() && u.unit()) {
                    cuts.add(t);
                }
            }
            // the ends of edges along the segment's own line
            if (dx * (a[1] - p[1]) - dy * (a[0] - p[0]) == 0 && (dx != 0 || dy != 0)) {
                Fraction t = Fraction.of((a[0] - p[0]) * dx + (a[1] - p[1]) * dy, dx * dx + dy * dy);
                if (t.unit()) {
                    cuts.add(t);
                }
            }
        }
        Fraction last = null;
        for (Fraction cut : cuts) {
            if (last != null) {
                Fraction middle = last.plus(cut).times(Fraction.of(1, 2));
                Fraction x = Fraction.of(p[0]).plus(middle.times(Fraction.of(dx)));
                Fraction y = Fraction.of(p[1]).plus(middle.times(Fraction.of(dy)));
                if (!contains(corners, x, y)) {
                    return false;
                }
            }
            last = cut;
        }
        return true;
    }

    /** 0: nothing in common, 1: one point, 2: more. */
    static int common(int[] a, int[] b, int[] c, int[] d) {
        int rx = b[0] - a[0];
        int ry = b[1] - a[1];
        int sx = d[0] - c[0];
        int sy = d[1] - c[1];
        int wedge = rx * sy - ry * sx;
        int wx = c[0] - a[0];
        int wy = c[1] - a[1];
        if (wedge != 0) {
            Fraction t = Fraction.of(wx * sy - wy * sx, wedge);
            Fraction u = Fraction.of(wx * ry - wy * rx, wedge);
            return t.unit() && u.unit() ? 1 : 0;
        }
        if (rx * wy - ry * wx != 0) {
            return 0;
        }
        // on one line, both with a length: along the axis on which the first one has a length
        int axis = rx != 0 ? 0 : 1;
        int low = Math.max(Math.min(a[axis], b[axis]), Math.min(c[axis], d[axis]));
        int high = Math.min(Math.max(a[axis], b[axis]), Math.max(c[axis], d[axis]));
        return low > high ? 0 : low == high ? 1 : 2;
    }

    static boolean simple(List<int[]> corners) {
        int n = corners.size();
        for (int i = 0; i < n; i++) {
            for (int j = 0; j < n; j++) {
                if (i != j && Arrays.equals(corners.get(i), corners.get(j))) {
                    return false;
                }
            }
        }
        for (int i = 0; i < n; i++) {
            for (int j = 0; j < n; j++) {
                if (i == j) {
                    continue;
                }
                boolean neighbours = (i + 1) % n == j || (j + 1) % n == i;
                int common = common(corners.get(i), corners.get((i + 1) % n), corners.get(j), corners.get((j + 1) % n));
                if (common > (neighbours ? 1 : 0)) {
                    return false;
                }
            }
        }
        return true;
    }

    static boolean possible(State next) {
        int n = next.corners.size();
        if (n < 3 || n > 12 || !simple(next.corners) || next.points().size() > 64) {
            return false;
        }
        for (int[] g : next.guards) {
            if (next.numberAt(g[0], g[1]) < 0) {
                return false;
            }
        }
        for (int[] t : next.treasures) {
            if (next.numberAt(t[0], t[1]) < 0) {
                return false;
            }
        }
        return true;
    }

    static int signedArea(List<int[]> ring) {
        int sum = 0;
        for (int i = 1; i + 1 < ring.size(); i++) {
            int[] o = ring.get(0);
            int[] a = ring.get(i);
            int[] b = ring.get(i + 1);
            sum += (a[0] - o[0]) * (b[1] - o[1]) - (a[1] - o[1]) * (b[0] - o[0]);
        }
        return sum;
    }

    // ---- what the methods share

    private void polygon() {
        if (state == null) {
            throw new IllegalStateException();
        }
    }

    private static void index(int i, int count) {
        if (i < 0 || i >= count) {
            throw new IndexOutOfBoundsException();
        }
    }

    private static void range(int value, int low, int high) {
        if (value < low || value > high) {
            throw new IllegalArgumentException();
        }
    }

    private int count() {
        return state.points().size();
    }

    private long set(int point) {
        long set = 0;
        for (int q = 0; q < count(); q++) {
            if (state.sees()[point][q]) {
                set |= 1L << q;
            }
        }
        return set;
    }

    private long everything() {
        long all = 0;
        for (int p = 0; p < count(); p++) {
            all |= 1L << p;
        }
        return all;
    }

    private static List<int[]> copy(List<int[]> list) {
        return new ArrayList<>(list);
    }

    private void change(State next) {
        past.add(state);
        if (past.size() > 8) {
            past.remove(0);
        }
        state = next;
    }

    // ---- input

    public int append(int a, int b, int c, int d, int e) {
        if (buffer.length() + 20 > 600) {
            return -1;
        }
        for (int word : new int[] {a, b, c, d, e}) {
            buffer.append((char) (word >> 24 & 255)).append((char) (word >> 16 & 255));
            buffer.append((char) (word >> 8 & 255)).append((char) (word & 255));
        }
        return buffer.length();
    }

    public int load(int n) {
        index(n, buffer.length() + 1);
        String text = buffer.substring(0, n);
        buffer.setLength(0);
        error = 0;
        position = -1;
        Reader reader = new Reader(text);
        State next = reader.read();
        if (next == null) {
            error = reader.error;
            position = reader.position;
            throw new IllegalArgumentException();
        }
        state = next;
        past.clear();
        saved[0] = null;
        saved[1] = null;
        return count();
    }

    /** Tells the tokens apart first, all of them, then goes along them; a fault leaves by the field error. */
    private static final class Reader {
        private final List<String> tokens = new ArrayList<>();
        private final List<Integer> starts = new ArrayList<>();
        private int at = 0;
        int error = 0;
        int position = -1;

        Reader(String text) {
            Matcher m = Pattern.compile("[a-z]+|[0-9]+|[^ ]", Pattern.DOTALL).matcher(text);
            while (m.find()) {
                tokens.add(m.group());
                starts.add(m.start());
            }
            tokens.add("");
            starts.add(text.length());
        }

        private boolean fail(int code) {
            if (error == 0) {
                error = code;
                position = starts.get(at);
            }
            return false;
        }

        private boolean word(String w) {
            if (error != 0 || !tokens.get(at).equals(w)) {
                return fail(1);
            }
            at++;
            return true;
        }

        /** A number from low to high; code is another error that would apply to it, or 0. */
        private int number(int low, int high, int code) {
            if (error != 0) {
                return -1;
            }
            if (!tokens.get(at).matches("[0-9]{1,4}")) {
                fail(1);
                return -1;
            }
            int value = Integer.parseInt(tokens.get(at));
            if (value < low || value > high) {
                fail(2);
                return -1;
            }
            if (code != 0) {
                fail(code);
                return -1;
            }
            at++;
            return value;
        }

        State read() {
            List<int[]> corners = new ArrayList<>();
            State next = new State(corners, new ArrayList<>(), new ArrayList<>());
            word("polygon");
            while (error == 0 && !(corners.size() >= 3 && (tokens.get(at).equals(";") || tokens.get(at).isEmpty()))) {
                int x = number(0, 15, corners.size() == 12 ? 5 : 0);
                int y = number(0, 15, 0);
                corners.add(new int[] {x, y});
            }
            if (error == 0 && !possible(next)) {
                fail(3);
            }
            while (error == 0 && !tokens.get(at).isEmpty()) {
                word(";");
                line(next);
            }
            return error == 0 ? next : null;
        }

        private void line(State next) {
            if (error != 0) {
                return;
            }
            boolean guard = tokens.get(at).equals("guard");
            if (!guard && !tokens.get(at).equals("treasure")) {
                fail(1);
            } else if ((guard ? next.guards : next.treasures).size() == 6) {
                fail(5);
            }
            at++;
            int x = number(0, 15, 0);
            int y = number(0, 15, error == 0 && yIsOff(next, x) ? 4 : 0);
            if (!guard) {
                int value = number(1, 999, 0);
                next.treasures.add(new int[] {x, y, value});
                return;
            }
            int range = 99;
            if (error == 0 && tokens.get(at).equals("range")) {
                at++;
                range = number(0, 99, 0);
            }
            next.guards.add(new int[] {x, y, range});
        }

        private boolean yIsOff(State next, int x) {
            return tokens.get(at).matches("[0-9]{1,4}") && next.numberAt(x, Integer.parseInt(tokens.get(at))) < 0;
        }
    }

    public int parseError() {
        return error;
    }

    public int errorPosition() {
        return position;
    }

    public int buffered() {
        return buffer.length();
    }

    // ---- the polygon

    public int vertices() {
        return state == null ? 0 : state.corners.size();
    }

    public int vertexX(int vertex) {
        polygon();
        index(vertex, state.corners.size());
        return state.corners.get(vertex)[0];
    }

    public int vertexY(int vertex) {
        polygon();
        index(vertex, state.corners.size());
        return state.corners.get(vertex)[1];
    }

    public int doubleArea() {
        polygon();
        return Math.abs(signedArea(state.corners));
    }

    public int reflexVertices() {
        polygon();
        List<int[]> c = state.corners;
        int n = c.size();
        int set = 0;
        for (int i = 0; i < n; i++) {
            int turn = signedArea(List.of(c.get((i + n - 1) % n), c.get(i), c.get((i + 1) % n)));
            if (Integer.signum(turn) == -Integer.signum(signedArea(c))) {
                set |= 1 << i;
            }
        }
        return set;
    }

    public int points() {
        return state == null ? 0 : count();
    }

    public int pointX(int point) {
        polygon();
        index(point, count());
        return state.points().get(point)[0];
    }

    public int pointY(int point) {
        polygon();
        index(point, count());
        return state.points().get(point)[1];
    }

    public int pointAt(int x, int y) {
        polygon();
        return state.numberAt(x, y);
    }

    private boolean onEdge(int edge, int point) {
        int[] a = state.corners.get(edge);
        int[] b = state.corners.get((edge + 1) % state.corners.size());
        int[] p = state.points().get(point);
        int dot = (a[0] - p[0]) * (b[0] - p[0]) + (a[1] - p[1]) * (b[1] - p[1]);
        return signedArea(List.of(a, b, p)) == 0 && dot <= 0;
    }

    public long boundary() {
        polygon();
        long set = 0;
        for (int e = 0; e < state.corners.size(); e++) {
            for (int p = 0; p < count(); p++) {
                if (onEdge(e, p)) {
                    set |= 1L << p;
                }
            }
        }
        return set;
    }

    // ---- visibility

    public boolean sees(int point, int other) {
        polygon();
        index(point, count());
        index(other, count());
        return state.sees()[point][other];
    }

    public long visible(int point) {
        polygon();
        index(point, count());
        return set(point);
    }

    public long kernel() {
        polygon();
        long common = everything();
        for (int p = 0; p < count(); p++) {
            common &= set(p);
        }
        return common;
    }

    private int[][] distances() {
        int n = count();
        int[][] d = new int[n][n];
        for (int i = 0; i < n; i++) {
            for (int j = 0; j < n; j++) {
                d[i][j] = i == j ? 0 : state.sees()[i][j] ? 1 : 1000;
            }
        }
        for (int k = 0; k < n; k++) {
            for (int i = 0; i < n; i++) {
                for (int j = 0; j < n; j++) {
                    d[i][j] = Math.min(d[i][j], d[i][k] + d[k][j]);
                }
            }
        }
        return d;
    }

    public int linkDistance(int point, int other) {
        polygon();
        index(point, count());
        index(other, count());
        return distances()[point][other];
    }

    public int diameter() {
        polygon();
        int most = 0;
        for (int[] row : distances()) {
            for (int d : row) {
                most = Math.max(most, d);
            }
        }
        return most;
    }

    public int farthest(int point) {
        polygon();
        index(point, count());
        int[] row = distances()[point];
        int best = 0;
        for (int q = 0; q < row.length; q++) {
            if (row[q] > row[best]) {
                best = q;
            }
        }
        return best;
    }

    public long seenFromEdge(int edge) {
        polygon();
        index(edge, state.corners.size());
        long seen = 0;
        for (int p = 0; p < count(); p++) {
            if (onEdge(edge, p)) {
                seen |= set(p);
            }
        }
        return seen;
    }

    // ---- triangulation

    private List<int[]> triangles() {
        List<Integer> ring = new ArrayList<>();
        for (int i = 0; i < state.corners.size(); i++) {
            ring.add(i);
        }
        int sense = Integer.signum(signedArea(state.corners));
        List<int[]> result = new ArrayList<>();
        while (ring.size() > 3) {
            int ear = -1;
            for (int i = 0; i < ring.size() && ear < 0; i++) {
                if (isEar(ring, i, sense)) {
                    ear = i;
                }
            }
            if (ear < 0) {
                throw new AssertionError("no ear");
            }
            int n = ring.size();
            result.add(sorted(ring.get((ear + n - 1) % n), ring.get(ear), ring.get((ear + 1) % n)));
            ring.remove(ear);
        }
        result.add(sorted(ring.get(0), ring.get(1), ring.get(2)));
        return result;
    }

    private boolean isEar(List<Integer> ring, int i, int sense) {
        int n = ring.size();
        int[] a = state.corners.get(ring.get((i + n - 1) % n));
        int[] b = state.corners.get(ring.get(i));
        int[] c = state.corners.get(ring.get((i + 1) % n));
        if (Integer.signum(signedArea(List.of(a, b, c))) != sense) {
            return false;
        }
        for (int v : ring) {
            int[] p = state.corners.get(v);
            if (p != a && p != b && p != c && contains(List.of(a, b, c), Fraction.of(p[0]), Fraction.of(p[1]))) {
                return false;
            }
        }
        return true;
    }

    private static int[] sorted(int a, int b, int c) {
        int[] t = {a, b, c};
        Arrays.sort(t);
        return t;
    }

    public int triangleVertex(int triangle, int k) {
        polygon();
        index(triangle, state.corners.size() - 2);
        range(k, 0, 2);
        return triangles().get(triangle)[k];
    }

    public int triangleArea(int triangle) {
        polygon();
        index(triangle, state.corners.size() - 2);
        int[] t = triangles().get(triangle);
        return Math.abs(signedArea(List.of(state.corners.get(t[0]), state.corners.get(t[1]), state.corners.get(t[2]))));
    }

    /** Tries colours, vertex by vertex, until each triangle has three. */
    private int[] colours() {
        int[] colours = new int[state.corners.size()];
        Arrays.fill(colours, -1);
        if (!colourFrom(0, colours, triangles())) {
            throw new AssertionError("no colouring");
        }
        return colours;
    }

    private boolean colourFrom(int vertex, int[] colours, List<int[]> triangles) {
        if (vertex == colours.length) {
            return true;
        }
        for (int c = 0; c < 3; c++) {
            if (vertex < 2 && c != vertex) {
                continue;
            }
            colours[vertex] = c;
            boolean fits = true;
            for (int[] t : triangles) {
                for (int i = 0; i < 3; i++) {
                    int a = colours[t[i]];
                    fits &= a < 0 || a != colours[t[(i + 1) % 3]];
                }
            }
            if (fits && colourFrom(vertex + 1, colours, triangles)) {
                return true;
            }
            colours[vertex] = -1;
        }
        return false;
    }

    public int colour(int vertex) {
        polygon();
        index(vertex, state.corners.size());
        return colours()[vertex];
    }

    public int colourGuards() {
        polygon();
        int[] sets = new int[3];
        int[] colours = colours();
        for (int v = 0; v < colours.length; v++) {
            sets[colours[v]] |= 1 << v;
        }
        int best = sets[0];
        for (int set : sets) {
            if (Integer.bitCount(set) < Integer.bitCount(best)) {
                best = set;
            }
        }
        return best;
    }

    // ---- fewest guards and witnesses

    private int fewest(long[] views) {
        for (int size = 1; size <= views.length; size++) {
            for (int set = 0; set < 1 << views.length; set++) {
                long seen = 0;
                for (int i = 0; i < views.length; i++) {
                    seen |= (set >> i & 1) != 0 ? views[i] : 0;
                }
                if (Integer.bitCount(set) == size && seen == everything()) {
                    return set;
                }
            }
        }
        throw new AssertionError("no cover");
    }

    public int vertexGuards() {
        polygon();
        long[] views = new long[state.corners.size()];
        for (int v = 0; v < views.length; v++) {
            views[v] = set(state.numberAt(state.corners.get(v)[0], state.corners.get(v)[1]));
        }
        return fewest(views);
    }

    public int edgeGuards() {
        polygon();
        long[] views = new long[state.corners.size()];
        for (int e = 0; e < views.length; e++) {
            views[e] = seenFromEdge(e);
        }
        return fewest(views);
    }

    private List<Integer> guardSet() {
        long[] sets = new long[count()];
        for (int p = 0; p < sets.length; p++) {
            sets[p] = set(p);
        }
        int n = sets.length;
        long all = everything();
        for (int a = 0; a < n; a++) {
            if (sets[a] == all) {
                return List.of(a);
            }
        }
        for (int a = 0; a < n; a++) {
            for (int b = a + 1; b < n; b++) {
                if ((sets[a] | sets[b]) == all) {
                    return List.of(a, b);
                }
            }
        }
        for (int a = 0; a < n; a++) {
            for (int b = a + 1; b < n; b++) {
                for (int c = b + 1; c < n; c++) {
                    if ((sets[a] | sets[b] | sets[c]) == all) {
                        return List.of(a, b, c);
                    }
                }
            }
        }
        for (int a = 0; a < n; a++) {
            for (int b = a + 1; b < n; b++) {
                for (int c = b + 1; c < n; c++) {
                    for (int d = c + 1; d < n; d++) {
                        if ((sets[a] | sets[b] | sets[c] | sets[d]) == all) {
                            return List.of(a, b, c, d);
                        }
                    }
                }
            }
        }
        throw new AssertionError("more than four guards");
    }

    public int guardNumber() {
        polygon();
        return guardSet().size();
    }

    public int guardPoint(int i) {
        polygon();
        index(i, guardSet().size());
        return guardSet().get(i);
    }

    /** All sets, each in increasing order, the lexicographically smaller ones first, the longest one kept. */
    private List<Integer> witnesses() {
        long[] sets = new long[count()];
        for (int p = 0; p < sets.length; p++) {
            sets[p] = set(p);
        }
        List<Integer> best = new ArrayList<>();
        longest(sets, new ArrayList<>(), 0, best);
        return best;
    }

    private static void longest(long[] sets, List<Integer> chosen, int from, List<Integer> best) {
        if (chosen.size() > best.size()) {
            best.clear();
            best.addAll(chosen);
        }
        for (int p = from; p < sets.length; p++) {
            boolean apart = true;
            for (int c : chosen) {
                apart &= (sets[c] & sets[p]) == 0;
            }
            if (apart) {
                chosen.add(p);
                longest(sets, chosen, p + 1, best);
                chosen.remove(chosen.size() - 1);
            }
        }
    }

    public int witnessNumber() {
        polygon();
        return witnesses().size();
    }

    public int witness(int i) {
        polygon();
        index(i, witnesses().size());
        return witnesses().get(i);
    }

    /** The largest clique of the graph of points that do not see each other, by Bron and Kerbosch with a pivot. */
    private int largestClique(long[] apart, long candidates, long excluded, int size) {
        if (candidates == 0) {
            return size;
        }
        int pivot = -1;
        for (int p = 0; p < apart.length; p++) {
            if (((candidates | excluded) >>> p & 1) != 0 && (pivot < 0
                    || Long.bitCount(candidates & apart[p]) > Long.bitCount(candidates & apart[pivot]))) {
                pivot = p;
            }
        }
        int best = 0;
        for (int p = 0; p < apart.length; p++) {
            if ((candidates & ~apart[pivot]) >>> p << 63 != 0) {
                best = Math.max(best, largestClique(apart, candidates & apart[p], excluded & apart[p], size + 1));
                candidates &= ~(1L << p);
                excluded |= 1L << p;
            }
        }
        return best;
    }

    public int hiddenNumber() {
        polygon();
        long[] apart = new long[count()];
        for (int p = 0; p < apart.length; p++) {
            apart[p] = everything() & ~set(p);
        }
        return largestClique(apart, everything(), 0, 0);
    }

    // ---- the present guards

    public int guards() {
        return state == null ? 0 : state.guards.size();
    }

    public int guardAt(int guard) {
        polygon();
        index(guard, state.guards.size());
        return state.numberAt(state.guards.get(guard)[0], state.guards.get(guard)[1]);
    }

    public int guardRange(int guard) {
        polygon();
        index(guard, state.guards.size());
        return state.guards.get(guard)[2];
    }

    private boolean watches(int[] guard, int point) {
        int[] p = state.points().get(point);
        double distance = Math.hypot(p[0] - guard[0], p[1] - guard[1]);
        return state.sees()[state.numberAt(guard[0], guard[1])][point] && distance <= guard[2] + 1e-9;
    }

    private long light(List<int[]> guards) {
        long set = 0;
        for (int p = 0; p < count(); p++) {
            for (int[] g : guards) {
                set |= watches(g, p) ? 1L << p : 0;
            }
        }
        return set;
    }

    public long watched(int guard) {
        polygon();
        index(guard, state.guards.size());
        return light(List.of(state.guards.get(guard)));
    }

    public long unwatched() {
        polygon();
        return everything() ^ light(state.guards);
    }

    public int watchers(int point) {
        polygon();
        index(point, count());
        int count = 0;
        for (int[] g : state.guards) {
            count += watches(g, point) ? 1 : 0;
        }
        return count;
    }

    public int redundantGuards() {
        polygon();
        int set = 0;
        for (int g = 0; g < state.guards.size(); g++) {
            List<int[]> rest = copy(state.guards);
            rest.remove(g);
            set |= light(rest) == light(state.guards) ? 1 << g : 0;
        }
        return set;
    }

    private int best(List<int[]> guards) {
        long dark = everything() & ~light(guards);
        int best = 0;
        for (int p = 0; p < count(); p++) {
            if (Long.bitCount(set(p) & dark) > Long.bitCount(set(best) & dark)) {
                best = p;
            }
        }
        return best;
    }

    public int bestPoint() {
        polygon();
        return best(state.guards);
    }

    public int greedyGuards() {
        polygon();
        List<int[]> guards = copy(state.guards);
        while (light(guards) != everything()) {
            int[] p = state.points().get(best(guards));
            guards.add(new int[] {p[0], p[1], 99});
        }
        return guards.size() - state.guards.size();
    }

    public int treasures() {
        return state == null ? 0 : state.treasures.size();
    }

    public int treasureAt(int treasure) {
        polygon();
        index(treasure, state.treasures.size());
        return state.numberAt(state.treasures.get(treasure)[0], state.treasures.get(treasure)[1]);
    }

    private int value(List<int[]> guards) {
        int sum = 0;
        for (int[] t : state.treasures) {
            sum += (light(guards) >>> state.numberAt(t[0], t[1]) & 1) != 0 ? t[2] : 0;
        }
        return sum;
    }

    public int watchedValue() {
        polygon();
        return value(state.guards);
    }

    public int bestValue() {
        polygon();
        List<Integer> values = new ArrayList<>();
        values.add(value(state.guards));
        for (int g = 0; g < state.guards.size(); g++) {
            for (int[] p : state.points()) {
                List<int[]> moved = copy(state.guards);
                moved.set(g, new int[] {p[0], p[1], state.guards.get(g)[2]});
                values.add(value(moved));
            }
        }
        return Collections.max(values);
    }

    // ---- the map

    public int draw(int y) {
        polygon();
        range(y, 0, 15);
        StringBuilder row = new StringBuilder("                ");
        int inRow = 0;
        for (int p = 0; p < count(); p++) {
            if (state.points().get(p)[1] == y) {
                inRow++;
                row.setCharAt(state.points().get(p)[0], (unwatched() >>> p & 1) != 0 ? '-' : '+');
            }
        }
        overwrite(row, state.corners, y, 'V');
        overwrite(row, state.treasures, y, 'T');
        overwrite(row, state.guards, y, 'G');
        drawn = row.toString();
        return inRow;
    }

    private static void overwrite(StringBuilder row, List<int[]> things, int y, char sign) {
        for (int[] thing : things) {
            if (thing[1] == y) {
                row.setCharAt(thing[0], sign);
            }
        }
    }

    public int drawnByte(int i) {
        index(i, drawn.length());
        return drawn.charAt(i);
    }

    // ---- changes

    public int addGuard(int point, int range) {
        polygon();
        index(point, count());
        range(range, 0, 99);
        if (state.guards.size() == 6) {
            throw new IllegalStateException();
        }
        List<int[]> guards = copy(state.guards);
        guards.add(new int[] {pointX(point), pointY(point), range});
        change(new State(state.corners, guards, state.treasures));
        return guards.size() - 1;
    }

    public int removeGuard(int guard) {
        polygon();
        index(guard, state.guards.size());
        List<int[]> guards = copy(state.guards);
        guards.remove(guard);
        change(new State(state.corners, guards, state.treasures));
        return guards.size();
    }

    public int moveGuard(int guard, int point) {
        polygon();
        index(guard, state.guards.size());
        index(point, count());
        int previous = guardAt(guard);
        List<int[]> guards = copy(state.guards);
        guards.set(guard, new int[] {pointX(point), pointY(point), guardRange(guard)});
        change(new State(state.corners, guards, state.treasures));
        return previous;
    }

    public int setRange(int guard, int range) {
        polygon();
        index(guard, state.guards.size());
        range(range, 0, 99);
        int[] old = state.guards.get(guard);
        List<int[]> guards = copy(state.guards);
        guards.set(guard, new int[] {old[0], old[1], range});
        change(new State(state.corners, guards, state.treasures));
        return old[2];
    }

    private int changeCorners(List<int[]> corners) {
        State next = new State(corners, state.guards, state.treasures);
        if (!possible(next)) {
            throw new IllegalArgumentException();
        }
        change(next);
        return count();
    }

    public int moveVertex(int vertex, int x, int y) {
        polygon();
        index(vertex, state.corners.size());
        range(x, 0, 15);
        range(y, 0, 15);
        List<int[]> corners = copy(state.corners);
        corners.set(vertex, new int[] {x, y});
        return changeCorners(corners);
    }

    public int insertVertex(int vertex, int x, int y) {
        polygon();
        index(vertex, state.corners.size());
        range(x, 0, 15);
        range(y, 0, 15);
        List<int[]> corners = copy(state.corners);
        corners.add(vertex + 1, new int[] {x, y});
        return changeCorners(corners);
    }

    public int deleteVertex(int vertex) {
        polygon();
        index(vertex, state.corners.size());
        List<int[]> corners = copy(state.corners);
        corners.remove(vertex);
        return changeCorners(corners);
    }

    public int undo() {
        if (past.isEmpty()) {
            throw new IllegalStateException();
        }
        state = past.remove(past.size() - 1);
        return past.size();
    }

    public int undoable() {
        return past.size();
    }

    public int save(int slot) {
        polygon();
        index(slot, 2);
        saved[slot] = state;
        return count();
    }

    public int restore(int slot) {
        index(slot, 2);
        if (saved[slot] == null) {
            throw new IllegalStateException();
        }
        state = saved[slot];
        past.clear();
        return count();
    }
}

/** Promises 24 to 27: triangleVertex, triangleArea, colour, colourGuards. */
public final class TriangulationTest {
    private static void withoutPolygon() {
        GalleryGuards g = new GalleryGuards();
        Probe.fails("triangleVertex(0, 0)", Probe.STATE, () -> g.triangleVertex(0, 0));
        Probe.fails("triangleVertex(-1, 3)", Probe.STATE, () -> g.triangleVertex(-1, 3));
        Probe.fails("triangleArea(0)", Probe.STATE, () -> g.triangleArea(0));
        Probe.fails("colour(0)", Probe.STATE, () -> g.colour(0));
        Probe.fails("colourGuards()", Probe.STATE, () -> g.colourGuards());
    }

    private static void wrongNumbers() {
        GalleryGuards g = Probe.loaded(Probe.ELL);
        int[] odd = {-1, 4, 5, 12, Integer.MIN_VALUE, Integer.MAX_VALUE};
        for (int t : odd) {
            Probe.fails("triangleVertex(" + t + ", 0)", Probe.INDEX, () -> g.triangleVertex(t, 0));
            Probe.fails("triangleVertex(" + t + ", 3)", Probe.INDEX, () -> g.triangleVertex(t, 3));
            Probe.fails("triangleArea(" + t + ")", Probe.INDEX, () -> g.triangleArea(t));
        }
        int[] oddCorners = {-1, 3, Integer.MIN_VALUE, Integer.MAX_VALUE};
        for (int k : oddCorners) {
            Probe.fails("triangleVertex(0, " + k + ")", Probe.ARGUMENT, () -> g.triangleVertex(0, k));
        }
        int[] oddVertices = {-1, 6, 12, Integer.MIN_VALUE, Integer.MAX_VALUE};
        for (int v : oddVertices) {
            Probe.fails("colour(" + v + ")", Probe.INDEX, () -> g.colour(v));
        }
    }

    /** triangles: three vertices and the area each; colours: one a vertex. */
    private static void triangulated(String text, int[][] triangles, int[] colours, int rarest) {
        GalleryGuards g = Probe.loaded(text);
        for (int t = 0; t < triangles.length; t++) {
            for (int k = 0; k < 3; k++) {
                Probe.due(text + ": triangleVertex(" + t + ", " + k + ")", g.triangleVertex(t, k), triangles[t][k]);
            }
            Probe.due(text + ": triangleArea(" + t + ")", g.triangleArea(t), triangles[t][3]);
        }
        Probe.fails(text + ": no more triangles", Probe.INDEX, () -> g.triangleArea(triangles.length));
        for (int v = 0; v < colours.length; v++) {
            Probe.due(text + ": colour(" + v + ")", g.colour(v), colours[v]);
        }
        Probe.due(text + ": colourGuards()", g.colourGuards(), rarest);
    }

    private static void triangulations() {
        triangulated("polygon 0 0 3 0 0 3", new int[][] {{0, 1, 2, 9}}, new int[] {0, 1, 2}, 1);
        triangulated("polygon 0 3 3 0 0 0", new int[][] {{0, 1, 2, 9}}, new int[] {0, 1, 2}, 1);
        triangulated(Probe.SQUARE, new int[][] {{0, 1, 3, 4}, {1, 2, 3, 4}}, new int[] {0, 1, 0, 2}, 1 << 1);
        triangulated(Probe.ELL, new int[][] {{0, 1, 2, 4}, {0, 2, 3, 3}, {0, 3, 5, 4}, {3, 4, 5, 3}},
                new int[] {0, 1, 2, 1, 0, 2}, 1 << 0 | 1 << 4);
        // clockwise: (0, 4) (1, 4) (1, 1) (4, 1) (4, 0) (0, 0)
        triangulated("polygon 0 4 1 4 1 1 4 1 4 0 0 0",
                new int[][] {{0, 1, 5, 4}, {1, 2, 5, 3}, {2, 3, 5, 3}, {3, 4, 5, 4}},
                new int[] {0, 1, 0, 1, 0, 2}, 1 << 5);
        // a flat vertex on the side of what would be the first ear's triangle
        triangulated("polygon 0 4 0 0 2 0 4 0", new int[][] {{0, 1, 2, 8}, {0, 2, 3, 8}}, new int[] {0, 1, 2, 1}, 1);
        triangulated("polygon 0 0 2 0 4 0 0 4", new int[][] {{0, 1, 3, 8}, {1, 2, 3, 8}}, new int[] {0, 1, 0, 2}, 1 << 1);
        // vertex 0 is a flat one, then a reflex one: neither is an ear
        triangulated("polygon 2 0 4 0 0 4 0 0", new int[][] {{0, 1, 2, 8}, {0, 2, 3, 8}}, new int[] {0, 1, 2, 1}, 1);
        triangulated("polygon 2 0 0 0 0 4 4 0", new int[][] {{0, 1, 2, 8}, {0, 2, 3, 8}}, new int[] {0, 1, 2, 1}, 1);
        triangulated("polygon 2 2 0 4 0 0 4 0 4 4",
                new int[][] {{0, 1, 2, 8}, {0, 2, 3, 8}, {0, 3, 4, 8}}, new int[] {0, 1, 2, 1, 2}, 1);
    }

    /** The triangles and colours of one polygon must not be answered for the next one. */
    private static void newPolygon() {
        GalleryGuards g = Probe.loaded(Probe.ELL);
        Probe.due("before: triangleVertex(0, 1)", g.triangleVertex(0, 1), 1);
        Probe.due("before: colour(5)", g.colour(5), 2);
        g.deleteVertex(3);
        // (0, 0) (4, 0) (4, 1) (1, 4) (0, 4)
        int[][] due = {{0, 1, 4, 16}, {1, 2, 4, 4}, {2, 3, 4, 3}};
        for (int t = 0; t < 3; t++) {
            for (int k = 0; k < 3; k++) {
                Probe.due("after: triangleVertex(" + t + ", " + k + ")", g.triangleVertex(t, k), due[t][k]);
            }
            Probe.due("after: triangleArea(" + t + ")", g.triangleArea(t), due[t][3]);
        }
        int[] colours = {0, 1, 0, 1, 2};
        for (int v = 0; v < 5; v++) {
            Probe.due("after: colour(" + v + ")", g.colour(v), colours[v]);
        }
        Probe.due("after: colourGuards()", g.colourGuards(), 1 << 4);
        g.undo();
        Probe.due("undone: colour(5)", g.colour(5), 2);
        Probe.due("undone: colourGuards()", g.colourGuards(), 17);
    }

    private static void sums() {
        for (String numbers : Shapes.DRAWN) {
            GalleryGuards g = Probe.loaded("polygon " + numbers);
            int sum = 0;
            for (int t = 0; t < g.vertices() - 2; t++) {
                int a = g.triangleVertex(t, 0);
                int b = g.triangleVertex(t, 1);
                int c = g.triangleVertex(t, 2);
                Probe.due(numbers + ": order", a < b && b < c, true);
                Probe.due(numbers + ": colours", 1 << g.colour(a) | 1 << g.colour(b) | 1 << g.colour(c), 7);
                Probe.due(numbers + ": area", g.triangleArea(t) > 0, true);
                sum += g.triangleArea(t);
            }
            Probe.due(numbers + ": sum of areas", sum, g.doubleArea());
        }
    }

    public static void main(String[] args) {
        withoutPolygon();
        wrongNumbers();
        triangulations();
        newPolygon();
        sums();
        Probe.end("TriangulationTest");
    }
}

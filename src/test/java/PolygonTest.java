/** Promises 7 to 16: vertices, vertexX, vertexY, doubleArea, reflexVertices, points, pointX, pointY, pointAt, boundary. */
public final class PolygonTest {
    private static void withoutPolygon() {
        GalleryGuards g = new GalleryGuards();
        Probe.due("vertices()", g.vertices(), 0);
        Probe.due("points()", g.points(), 0);
        Probe.fails("vertexX(0)", Probe.STATE, () -> g.vertexX(0));
        Probe.fails("vertexX(-1)", Probe.STATE, () -> g.vertexX(-1));
        Probe.fails("vertexY(0)", Probe.STATE, () -> g.vertexY(0));
        Probe.fails("vertexY(12)", Probe.STATE, () -> g.vertexY(12));
        Probe.fails("doubleArea()", Probe.STATE, () -> g.doubleArea());
        Probe.fails("reflexVertices()", Probe.STATE, () -> g.reflexVertices());
        Probe.fails("pointX(0)", Probe.STATE, () -> g.pointX(0));
        Probe.fails("pointX(-1)", Probe.STATE, () -> g.pointX(-1));
        Probe.fails("pointY(0)", Probe.STATE, () -> g.pointY(0));
        Probe.fails("pointY(64)", Probe.STATE, () -> g.pointY(64));
        Probe.fails("pointAt(0, 0)", Probe.STATE, () -> g.pointAt(0, 0));
        Probe.fails("boundary()", Probe.STATE, () -> g.boundary());
    }

    private static void vertices() {
        GalleryGuards g = Probe.loaded(Probe.ELL);
        int[] xs = {0, 4, 4, 1, 1, 0};
        int[] ys = {0, 0, 1, 1, 4, 4};
        Probe.due("vertices()", g.vertices(), 6);
        for (int v = 0; v < 6; v++) {
            Probe.due("vertexX", g.vertexX(v), xs[v]);
            Probe.due("vertexY", g.vertexY(v), ys[v]);
        }
        Probe.fails("vertexX(6)", Probe.INDEX, () -> g.vertexX(6));
        Probe.fails("vertexY(6)", Probe.INDEX, () -> g.vertexY(6));
        for (int odd : Probe.ODD_INDEXES) {
            Probe.fails("vertexX(" + odd + ")", Probe.INDEX, () -> g.vertexX(odd));
            Probe.fails("vertexY(" + odd + ")", Probe.INDEX, () -> g.vertexY(odd));
        }
    }

    private static void areaAndAngles(String name, String text, int area, int reflex) {
        GalleryGuards g = Probe.loaded(text);
        Probe.due(name + ": doubleArea()", g.doubleArea(), area);
        Probe.due(name + ": reflexVertices()", g.reflexVertices(), reflex);
    }

    private static void areasAndAngles() {
        areaAndAngles("square", Probe.SQUARE, 8, 0);
        areaAndAngles("square, clockwise", "polygon 0 2 2 2 2 0 0 0", 8, 0);
        areaAndAngles("smallest", "polygon 3 3 4 3 3 4", 1, 0);
        areaAndAngles("ell", Probe.ELL, 14, 1 << 3);
        areaAndAngles("ell, clockwise", "polygon 0 4 1 4 1 1 4 1 4 0 0 0", 14, 1 << 2);
        areaAndAngles("you", Probe.YOU, 14, 1 << 4 | 1 << 5);
        areaAndAngles("flat angles", "polygon 0 0 1 0 2 0 4 0 4 1 4 3 4 4 2 4 0 4 0 3 0 2 0 1", 32, 0);
        areaAndAngles("flat angles, clockwise", "polygon 0 0 0 2 0 4 2 4 4 4 4 2 4 0 2 0", 32, 0);
        areaAndAngles("heart, clockwise", "polygon 0 4 2 2 4 4 4 0 2 0 0 0", 24, 1 << 1);
        areaAndAngles("heart", "polygon 0 0 4 0 4 4 2 2 0 4", 24, 1 << 3);
    }

    private static void points() {
        GalleryGuards g = Probe.loaded(Probe.ELL);
        int[] xs = {0, 1, 2, 3, 4, 0, 1, 2, 3, 4, 0, 1, 0, 1, 0, 1};
        int[] ys = {0, 0, 0, 0, 0, 1, 1, 1, 1, 1, 2, 2, 3, 3, 4, 4};
        Probe.due("points()", g.points(), 16);
        for (int p = 0; p < 16; p++) {
            Probe.due("pointX", g.pointX(p), xs[p]);
            Probe.due("pointY", g.pointY(p), ys[p]);
            Probe.due("pointAt", g.pointAt(xs[p], ys[p]), p);
        }
        Probe.fails("pointX(16)", Probe.INDEX, () -> g.pointX(16));
        Probe.fails("pointY(16)", Probe.INDEX, () -> g.pointY(16));
        for (int odd : Probe.ODD_INDEXES) {
            Probe.fails("pointX(" + odd + ")", Probe.INDEX, () -> g.pointX(odd));
            Probe.fails("pointY(" + odd + ")", Probe.INDEX, () -> g.pointY(odd));
            Probe.due("pointAt(odd, 0)", g.pointAt(odd, 0), -1);
            Probe.due("pointAt(0, odd)", g.pointAt(0, odd), -1);
        }
        Probe.due("pointAt(2, 2)", g.pointAt(2, 2), -1);
        Probe.due("pointAt(16, 0)", g.pointAt(16, 0), -1);
        Probe.due("pointAt(-1, 1)", g.pointAt(-1, 1), -1);
        Probe.due("pointAt(0, 16)", g.pointAt(0, 16), -1);
    }

    private static void boundary() {
        Probe.due("square: boundary()", Probe.loaded(Probe.SQUARE).boundary(), 495);
        Probe.due("ell: boundary()", Probe.loaded(Probe.ELL).boundary(), 65535);
        // (2, 1) and (1, 2) lie on slanting edges, (1, 1) inside
        GalleryGuards g = Probe.loaded("polygon 0 0 3 0 0 3");
        Probe.due("triangle: points()", g.points(), 10);
        Probe.due("triangle: boundary()", g.boundary(), 1023 & ~Probe.set(g.pointAt(1, 1)));
        GalleryGuards full = Probe.loaded("polygon 0 0 7 0 7 7 0 7");
        long inside = 0;
        for (int y = 1; y < 7; y++) {
            inside |= 0x7eL << 8 * y;
        }
        Probe.due("full: points()", full.points(), 64);
        Probe.due("full: boundary()", full.boundary(), ~inside);
    }

    public static void main(String[] args) {
        withoutPolygon();
        vertices();
        areasAndAngles();
        points();
        boundary();
        Probe.end("PolygonTest");
    }
}

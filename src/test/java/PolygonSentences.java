/** Section 1, the constant, and promises 7 to 16: the polygon. */
final class PolygonSentences extends Sentences {
    /** A square of 4 by 4 without a corner: the angle at vertex 11 is the only one above 180 degrees. */
    private static final String NOTCHED = "polygon 1 0 2 0 3 0 4 0 4 1 4 2 4 4 3 4 2 4 0 4 0 1 1 1";

    PolygonSentences(Document document) {
        super(document);
    }

    @Override
    void all() {
        whatItIs();
        part("Constants");
        says("- `NONE = -1`: The value for \"none\", -1.", () -> due("NONE", GalleryGuards.NONE, -1));
        part("Section 1");
        limits();
        simple();
        directions();
        points();
        sets();
        vertexPromises();
        shapePromises();
        pointPromises();
    }

    private void whatItIs() {
        part("What it is");
        says("A workbench for art gallery problems: guards, visibility and triangulations in a simple polygon with "
                + "integer coordinates.", () -> {
            GalleryGuards g = loaded(Probe.SQUARE);
            due("guards", g.guardNumber(), 1);
            due("visibility", g.kernel(), 511);
            due("triangulations", g.triangleArea(1), 4);
        });
        says("An object is used for at most 512 calls after it has been made; what later calls answer is free.", () -> {
            GalleryGuards g = loaded(Probe.SQUARE);
            // two calls of append and one of load are made already
            for (int i = 4; i < 512; i += 2) {
                due("call " + i, g.addGuard(i % 9, 1), 0);
                due("call " + (i + 1), g.undo(), 0);
            }
            due("call 512", g.kernel(), 511);
        });
    }

    private void limits() {
        says("The polygon has 3 to 12 vertices", () -> {
            due("3 vertices", loaded(TRIANGLE).vertices(), 3);
            due("12 vertices", loaded(TWELVE).vertices(), 12);
            Probe.refused("polygon", 1, 7);
            Probe.refused("polygon 0 0", 1, 11);
            Probe.refused("polygon 0 0 1 0", 1, 15);
            Probe.refused("polygon 0 0 1 0;guard 0 0", 1, 15);
            Probe.refused(TWELVE + " 1 1", 5, 56);
        });
        says("with integer coordinates x and y from 0 to 15,", () -> {
            GalleryGuards g = loaded("polygon 0 0 15 15 14 15");
            due("the lowest x", g.vertexX(0), 0);
            due("the lowest y", g.vertexY(0), 0);
            due("the highest x", g.vertexX(1), 15);
            due("the highest y", g.vertexY(1), 15);
            Probe.refused("polygon 0 0 16 15 14 15", 2, 12);
            Probe.refused("polygon 0 0 15 16 14 15", 2, 15);
            fails("x = -1", ARGUMENT, () -> g.moveVertex(0, -1, 0));
            fails("y = -1", ARGUMENT, () -> g.moveVertex(0, 0, -1));
            fails("x = 16", ARGUMENT, () -> g.moveVertex(1, 16, 15));
            fails("y = 16", ARGUMENT, () -> g.moveVertex(1, 15, 16));
        });
        says("numbered from 0 in the order of the text.", () -> {
            GalleryGuards g = loaded("polygon 5 1 9 2 7 6 3 4");
            int[] places = {5, 1, 9, 2, 7, 6, 3, 4};
            for (int v = 0; v < 4; v++) {
                due("vertexX(" + v + ")", g.vertexX(v), places[2 * v]);
                due("vertexY(" + v + ")", g.vertexY(v), places[2 * v + 1]);
            }
        });
        says("Edge i leads from vertex i to the next one", () -> {
            // the edge (4, 0) (4, 1) of the ell sees one arm, the edge (1, 4) (0, 4) the other, the rest see all
            GalleryGuards g = loaded(Probe.ELL);
            long[] seen = {65535, 1023, 65535, 65535, 0xfc63, 65535};
            for (int e = 0; e < 6; e++) {
                due("seenFromEdge(" + e + ")", g.seenFromEdge(e), seen[e]);
            }
        });
        says("(from the last one to vertex 0).", () -> {
            GalleryGuards g = loaded("polygon 4 1 1 1 1 4 0 4 0 0 4 0");
            due("the last edge, (4, 0) to (4, 1)", g.seenFromEdge(5), 1023);
            due("the edge before, (0, 0) to (4, 0)", g.seenFromEdge(4), 65535);
            due("the first edge, (4, 1) to (1, 1)", g.seenFromEdge(0), 65535);
            GalleryGuards h = loaded("polygon 0 4 0 0 4 0 4 1 1 1 1 4");
            due("the last edge, (1, 4) to (0, 4)", h.seenFromEdge(5), 0xfc63);
            due("the first edge, (0, 4) to (0, 0)", h.seenFromEdge(0), 65535);
            // the last edge and edge 0 are neighbours, so that they may share vertex 0
            Probe.accepted(TRIANGLE, 10);
            Probe.accepted(Probe.SQUARE, 9);
        });
    }

    private void simple() {
        says("The polygon must be simple: two edges have no point in common,", () -> {
            // they cross, an end is on another edge, two ends are at one place, they share a piece
            refusedEveryWay("0 0 2 2 2 0 0 2");
            refusedEveryWay("0 0 5 1 0 3 3 0");
            refusedEveryWay("0 0 4 0 4 4 2 0 0 4");
            refusedEveryWay("2 2 4 4 4 2 2 2 0 0 0 2");
            refusedEveryWay("0 0 4 0 4 2 3 2 3 0 1 0 1 2 0 2");
            // as near as can be, without touching
            everyWay("0 0 4 0 4 4 2 1 0 4", text -> Probe.accepted(text, 18));
        });
        says("except that each edge and the next one share their common vertex", () -> {
            everyWay("0 0 1 0 0 1", text -> Probe.accepted(text, 3));
            everyWay("0 0 2 0 2 2 0 2", text -> Probe.accepted(text, 9));
        });
        says("and nothing else.", () -> {
            // an edge that goes back over the one before: by a part of it, all of it and more than it
            refusedEveryWay("0 0 3 0 1 0 1 3");
            refusedEveryWay("0 0 3 0 0 0 0 3");
            refusedEveryWay("1 0 3 0 0 0 0 3");
            refusedEveryWay("0 0 3 3 1 1 0 3");
            // an edge without a length
            refusedEveryWay("0 0 0 0 3 0 0 3");
            refusedEveryWay("0 0 0 0 1 1");
            refusedEveryWay("5 5 5 5 5 5");
            // all of it on one line
            refusedEveryWay("0 0 1 0 2 0");
            refusedEveryWay("0 0 2 0 1 0");
            refusedEveryWay("0 0 1 1 3 3 2 2");
        });
        says("(An angle of 180 degrees at a vertex is allowed.)", () -> {
            everyWay("0 0 1 0 2 0 2 2 0 2", text -> Probe.accepted(text, 9));
            everyWay("0 0 2 0 1 1 0 2", text -> Probe.accepted(text, 6));
            everyWay("0 0 1 0 2 0 4 0 4 1 4 3 4 4 2 4 0 4 0 3 0 2 0 1", text -> Probe.accepted(text, 25));
        });
    }

    private void directions() {
        says("The vertices may be given clockwise or counter-clockwise.", () -> {
            GalleryGuards left = loaded("polygon 0 0 4 0 4 1 1 1 1 4 0 4");
            GalleryGuards right = loaded("polygon 0 4 1 4 1 1 4 1 4 0 0 0");
            due("points()", right.points(), left.points());
            due("doubleArea()", right.doubleArea(), left.doubleArea());
            due("boundary()", right.boundary(), left.boundary());
            due("kernel()", right.kernel(), left.kernel());
            for (int p = 0; p < left.points(); p++) {
                due("visible(" + p + ")", right.visible(p), left.visible(p));
            }
            due("the angle above 180 degrees, counter-clockwise", left.reflexVertices(), 1 << 3);
            due("the angle above 180 degrees, clockwise", right.reflexVertices(), 1 << 2);
            due("the first ear, counter-clockwise", left.triangleVertex(0, 2), 2);
            due("the first ear, clockwise", right.triangleVertex(0, 2), 5);
        });
    }

    private void points() {
        says("The polygon includes its boundary.", () -> {
            GalleryGuards g = loaded(TRIANGLE + ";guard 2 1;treasure 1 2 5;guard 3 0;treasure 0 1 5");
            due("points()", g.points(), 10);
            for (int i = 0; i <= 3; i++) {
                due("a point of the upright edge", g.pointAt(0, i) >= 0, true);
                due("a point of the level edge", g.pointAt(i, 0) >= 0, true);
                due("a point of the slanting edge", g.pointAt(i, 3 - i) >= 0, true);
                due("just outside", g.pointAt(i + 1, 3 - i), -1);
            }
        });
        says("Its points are the points with integer coordinates that belong to it;", () -> {
            GalleryGuards g = loaded(Probe.YOU);
            int count = 0;
            for (int y = -1; y <= 17; y++) {
                for (int x = -1; x <= 17; x++) {
                    boolean belongs = x >= 0 && x <= 3 && y >= 0 && y <= 3;
                    due("(" + x + ", " + y + ")", g.pointAt(x, y) >= 0, belongs);
                    count += belongs ? 1 : 0;
                }
            }
            due("points()", g.points(), count);
            // rows at which a vertex touches from below, from above, or a side changes its slope
            GalleryGuards star = loaded("polygon 5 0 6 4 10 5 6 6 5 10 4 6 0 5 4 4");
            int[] rows = {1, 1, 1, 1, 3, 11, 3, 1, 1, 1, 1};
            for (int y = 0; y <= 10; y++) {
                due("row " + y + " of a star", star.draw(y), rows[y]);
            }
        });
        says("there must be at most 64.", () -> {
            Probe.accepted(FULL, 64);
            Probe.accepted("polygon 0 0 3 0 3 15 0 15", 64);
            Probe.refused("polygon 0 0 12 0 12 4 0 4", 3, 25);
            Probe.refused("polygon 0 1 3 0 7 1 7 8 0 8", 3, 27);
            Probe.refused("polygon 0 0 15 0 15 15 0 15", 3, 27);
            // from 63 points to 64, and from 64 to 65
            GalleryGuards g = loaded("polygon 0 1 7 1 7 8 1 8 0 7");
            due("points()", g.points(), 63);
            due("one point more", g.insertVertex(0, 3, 0), 64);
            leavesAll(g, ARGUMENT, () -> g.insertVertex(2, 8, 4));
        });
        says("They are numbered from 0 in increasing order of y, then of x.", () -> {
            GalleryGuards g = loaded("polygon 4 3 2 1 3 0 6 2");
            int[] xs = {3, 2, 3, 4, 3, 4, 5, 6, 4};
            int[] ys = {0, 1, 1, 1, 2, 2, 2, 2, 3};
            due("points()", g.points(), xs.length);
            for (int p = 0; p < xs.length; p++) {
                due("pointX(" + p + ")", g.pointX(p), xs[p]);
                due("pointY(" + p + ")", g.pointY(p), ys[p]);
            }
        });
    }

    private void sets() {
        says("Sets of points are given as long values whose bit k stands for point k", () -> {
            GalleryGuards g = loaded(FULL);
            for (int k = 0; k < 64; k++) {
                g.addGuard(k, 0);
                due("the set of point " + k, g.watched(0), 1L << k);
                due("the set of the others", g.unwatched(), ~(1L << k));
                g.undo();
            }
        });
        says("(so a set that contains point 63 is negative);", () -> {
            GalleryGuards g = loaded(FULL + ";guard 7 7 range 0;guard 6 7 range 0");
            due("boundary()", g.boundary(), 0xff818181818181ffL);
            due("visible(0)", g.visible(0), -1L);
            due("visible(63)", g.visible(63), -1L);
            due("kernel()", g.kernel(), -1L);
            due("seenFromEdge(0)", g.seenFromEdge(0), -1L);
            due("watched(0)", g.watched(0), Long.MIN_VALUE);
            due("watched(1)", g.watched(1), Long.MIN_VALUE >>> 1);
            due("unwatched()", g.unwatched(), Long.MIN_VALUE >>> 1 ^ Long.MAX_VALUE);
            g.removeGuard(0);
            due("unwatched() with point 63", g.unwatched(), ~(Long.MIN_VALUE >>> 1));
        });
        says("sets of vertices, edges and guards are int values likewise.", () -> {
            due("vertex 11", loaded(NOTCHED).reflexVertices(), 1 << 11);
            due("edge 11", loaded("polygon 14 0 13 4 12 1 10 1 9 4 8 1 6 1 5 4 4 1 2 1 1 4 0 0").edgeGuards(), 1 << 11);
            GalleryGuards six = loaded(Probe.SQUARE + ";guard 0 0 range 0;guard 1 0 range 0;guard 2 0 range 0"
                    + ";guard 0 1 range 0;guard 1 1 range 0;guard 1 1 range 0");
            due("guards 4 and 5", six.redundantGuards(), 1 << 4 | 1 << 5);
        });
    }

    private void vertexPromises() {
        promise(7);
        says("Returns the number of vertices;", () -> {
            due("3", loaded(TRIANGLE).vertices(), 3);
            due("6", loaded(Probe.ELL).vertices(), 6);
            GalleryGuards g = loaded(TWELVE);
            due("12", g.vertices(), 12);
            g.deleteVertex(1);
            due("11", g.vertices(), 11);
        });
        says("0 if there is no polygon.", () -> {
            GalleryGuards g = new GalleryGuards();
            due("new", g.vertices(), 0);
            Probe.refusedBy(g, "polygon 0 0 2 0 2 2;guard 0 2", 4, 28);
            due("after a refused text", g.vertices(), 0);
        });
        promise(8);
        says("Returns the x coordinate of a vertex.", () -> vertexPlaces(true));
        says("Returns the coordinate.", () -> due("vertexX", loaded("polygon 0 0 15 14 14 14").vertexX(1), 15));
        says(VERTEX, () -> below(12, loaded(TWELVE), GalleryGuards::vertexX));
        says(NO_POLYGON, () -> noPolygon(g -> g.vertexX(0), g -> g.vertexX(-1), g -> g.vertexX(12)));
        says(NO_VERTEX, () -> {
            below(3, loaded(TRIANGLE), GalleryGuards::vertexX);
            below(6, loaded(Probe.ELL), GalleryGuards::vertexX);
        });
        promise(9);
        says("Returns the y coordinate of a vertex.", () -> vertexPlaces(false));
        says("Returns the coordinate.", () -> due("vertexY", loaded("polygon 0 0 14 15 14 14").vertexY(1), 15));
        says(VERTEX, () -> below(12, loaded(TWELVE), GalleryGuards::vertexY));
        says(NO_POLYGON, () -> noPolygon(g -> g.vertexY(0), g -> g.vertexY(-1), g -> g.vertexY(12)));
        says(NO_VERTEX, () -> {
            below(3, loaded(TRIANGLE), GalleryGuards::vertexY);
            below(6, loaded(Probe.ELL), GalleryGuards::vertexY);
        });
    }

    private static void vertexPlaces(boolean ofX) {
        GalleryGuards g = loaded("polygon 1 0 15 3 13 4 0 2");
        int[] xs = {1, 15, 13, 0};
        int[] ys = {0, 3, 4, 2};
        for (int v = 0; v < 4; v++) {
            due("vertex " + v, ofX ? g.vertexX(v) : g.vertexY(v), ofX ? xs[v] : ys[v]);
        }
    }

    private void shapePromises() {
        promise(10);
        says("Returns twice the area of the polygon.", () -> {
            due("ell", loaded(Probe.ELL).doubleArea(), 14);
            due("the largest square", loaded(FULL).doubleArea(), 98);
            due("far from (0, 0)", loaded("polygon 12 12 15 12 15 15 12 15").doubleArea(), 18);
            due("an odd one", loaded("polygon 0 0 15 15 14 15").doubleArea(), 15);
        });
        says("Returns twice the area, positive.", () -> {
            due("the smallest one", loaded("polygon 14 15 15 15 15 14").doubleArea(), 1);
            due("the smallest one, turned", loaded("polygon 15 14 15 15 14 15").doubleArea(), 1);
            due("clockwise", loaded("polygon 0 4 1 4 1 1 4 1 4 0 0 0").doubleArea(), 14);
        });
        says(NO_POLYGON, () -> noPolygon(GalleryGuards::doubleArea));
        promise(11);
        says("Returns the vertices at which the angle inside the polygon is greater than 180 degrees.", () -> {
            due("you", loaded(Probe.YOU).reflexVertices(), 1 << 4 | 1 << 5);
            due("you, clockwise", loaded("polygon 0 3 1 3 1 1 2 1 2 3 3 3 3 0 0 0").reflexVertices(), 1 << 2 | 1 << 3);
            // exactly 180 degrees, a little more and a little less, in both directions
            due("180", loaded(TWELVE).reflexVertices(), 0);
            due("180, clockwise", loaded("polygon 0 0 0 2 0 4 2 4 4 4 4 2 4 0 2 0").reflexVertices(), 0);
            due("more", loaded("polygon 0 0 7 1 15 2 15 3 0 3").reflexVertices(), 1 << 1);
            due("more, clockwise", loaded("polygon 0 3 15 3 15 2 7 1 0 0").reflexVertices(), 1 << 3);
            due("less", loaded("polygon 0 0 8 1 15 2 15 3 0 3").reflexVertices(), 0);
            due("less, clockwise", loaded("polygon 0 3 15 3 15 2 8 1 0 0").reflexVertices(), 0);
            due("at vertex 0", loaded("polygon 2 2 0 4 0 0 4 0 4 4").reflexVertices(), 1);
            due("at the last vertex", loaded("polygon 0 4 0 0 4 0 4 4 2 2").reflexVertices(), 1 << 4);
        });
        says("Returns the set of vertices.", () -> {
            due("none", loaded(TRIANGLE).reflexVertices(), 0);
            everyWay("0 0 1 0 0 1", text -> due("none of the smallest one", loaded(text).reflexVertices(), 0));
            due("vertex 11", loaded(NOTCHED).reflexVertices(), 1 << 11);
        });
        says(NO_POLYGON, () -> noPolygon(GalleryGuards::reflexVertices));
    }

    private void pointPromises() {
        promise(12);
        says("Returns the number of points;", () -> {
            due("the fewest", loaded("polygon 0 0 1 0 0 1").points(), 3);
            due("the most", loaded(FULL).points(), 64);
            due("ell", loaded(Probe.ELL).points(), 16);
        });
        says("0 if there is no polygon.", () -> {
            GalleryGuards g = new GalleryGuards();
            due("new", g.points(), 0);
            Probe.refusedBy(g, "polygon 0 0 2 0 2 2;guard 0 2", 4, 28);
            due("after a refused text", g.points(), 0);
        });
        promise(13);
        says("Returns the x coordinate of a point.", () -> pointPlaces(true));
        says("Returns the coordinate.", () -> due("pointX", loaded("polygon 14 15 15 15 15 14").pointX(2), 15));
        says(POINT, () -> below(64, loaded(FULL), GalleryGuards::pointX));
        says(NO_POLYGON, () -> noPolygon(g -> g.pointX(0), g -> g.pointX(-1), g -> g.pointX(64)));
        says(NO_POINT, () -> below(16, loaded(Probe.ELL), GalleryGuards::pointX));
        promise(14);
        says("Returns the y coordinate of a point.", () -> pointPlaces(false));
        says("Returns the coordinate.", () -> due("pointY", loaded("polygon 14 15 15 15 15 14").pointY(2), 15));
        says(POINT, () -> below(64, loaded(FULL), GalleryGuards::pointY));
        says(NO_POLYGON, () -> noPolygon(g -> g.pointY(0), g -> g.pointY(-1), g -> g.pointY(64)));
        says(NO_POINT, () -> below(16, loaded(Probe.ELL), GalleryGuards::pointY));
        promise(15);
        says("Returns the point with given coordinates.", () -> {
            GalleryGuards g = loaded(FULL);
            for (int p = 0; p < 64; p++) {
                due("pointAt of point " + p, g.pointAt(p % 8, p / 8), p);
            }
        });
        says("- `x`: any int", () -> anyInt((g, x) -> g.pointAt(x, 0)));
        says("- `y`: any int", () -> anyInt((g, y) -> g.pointAt(0, y)));
        says("Returns the number of the point;", () -> {
            GalleryGuards g = loaded("polygon 13 15 15 15 15 13");
            due("(15, 13)", g.pointAt(15, 13), 0);
            due("(15, 15)", g.pointAt(15, 15), 5);
        });
        says("NONE if there is none.", () -> {
            GalleryGuards g = loaded(Probe.ELL);
            due("in the corner", g.pointAt(2, 2), -1);
            due("below", g.pointAt(0, -1), -1);
            due("to the right", g.pointAt(5, 0), -1);
            due("the row above, if rows ran on", g.pointAt(16, 0), -1);
            due("the row below, if rows ran on", g.pointAt(-16, 1), -1);
            due("(15, 15)", g.pointAt(15, 15), -1);
            due("(16, 16)", g.pointAt(16, 16), -1);
        });
        says(NO_POLYGON, () -> noPolygon(g -> g.pointAt(0, 0), g -> g.pointAt(-1, 16)));
        promise(16);
        says("Returns the points on the boundary of the polygon.", () -> {
            due("all but one", loaded(Probe.SQUARE).boundary(), 495);
            due("all", loaded(Probe.ELL).boundary(), 65535);
            due("on a slanting edge", loaded(TRIANGLE).boundary(), 1023 ^ 1 << 5);
            due("at flat vertices", loaded(TWELVE).boundary(), 33080895);
        });
        says("Returns the set of points.", () -> due("64 points", loaded(FULL).boundary(), 0xff818181818181ffL));
        says(NO_POLYGON, () -> noPolygon(GalleryGuards::boundary));
    }

    private static void pointPlaces(boolean ofX) {
        GalleryGuards g = loaded("polygon 12 15 15 12 15 15");
        int[] xs = {15, 14, 15, 13, 14, 15, 12, 13, 14, 15};
        int[] ys = {12, 13, 13, 14, 14, 14, 15, 15, 15, 15};
        for (int p = 0; p < 10; p++) {
            due("point " + p, ofX ? g.pointX(p) : g.pointY(p), ofX ? xs[p] : ys[p]);
        }
    }

    private static void anyInt(AskWith call) {
        GalleryGuards g = loaded(Probe.SQUARE);
        int[] others = {-1, 3, 15, 16, 64, 255, 256, -256, 65536, Integer.MIN_VALUE, Integer.MAX_VALUE, 1 << 28};
        for (int number : others) {
            due("the call with " + number, call.of(g, number), -1);
        }
        due("the call with 0", call.of(g, 0), 0);
    }
}

import java.util.Arrays;

/** Section 2 and promises 17 to 23: visibility. */
final class SightSentences extends Sentences {
    private static final String HEART = "polygon 0 0 4 0 4 4 2 2 0 4";
    /** A wedge from above comes down to (3, 1). */
    private static final String SPIKE = "polygon 0 0 6 0 6 3 4 3 3 1 2 3 0 3";
    /** A wedge from the right ends at (2, 2), one from the left at (1, 1). */
    private static final String WEDGES = "polygon 0 0 3 0 2 2 3 1 3 3 0 3 1 1 0 2";

    SightSentences(Document document) {
        super(document);
    }

    @Override
    void all() {
        part("Section 2");
        segments();
        paths();
        guardsOfTwoKinds();
        seeingPromises();
        linkPromises();
        edgePromise();
    }

    private static void see(GalleryGuards g, int ax, int ay, int bx, int by, boolean want) {
        int a = at(g, ax, ay);
        int b = at(g, bx, by);
        String what = "(" + ax + ", " + ay + ") sees (" + bx + ", " + by + ")";
        due(what, g.sees(a, b), want);
        due(what + ", asked the other way", g.sees(b, a), want);
    }

    private void segments() {
        says("A point sees another point if the straight segment between them lies in the polygon completely", () -> {
            GalleryGuards ell = loaded(Probe.ELL);
            see(ell, 0, 0, 1, 4, true);
            see(ell, 4, 0, 1, 4, false);
            // past a corner by as little as can be
            see(ell, 3, 0, 0, 2, false);
            see(ell, 2, 0, 0, 3, false);
            // neighbours in the lattice with a gap between them
            GalleryGuards you = loaded(Probe.YOU);
            see(you, 1, 2, 2, 2, false);
            see(you, 1, 3, 2, 3, false);
            // both ends and all lattice points between them belong to it, but a wedge comes between
            GalleryGuards gap = loaded("polygon 0 0 3 0 3 4 2 4 2 3 1 2 1 4 0 4");
            see(gap, 1, 3, 2, 3, false);
            see(gap, 0, 3, 3, 3, false);
            see(loaded(SPIKE), 2, 2, 4, 1, false);
            see(loaded(SPIKE), 0, 2, 6, 2, false);
            // out and in again at its own ends
            see(loaded(HEART), 0, 4, 4, 4, false);
            see(loaded("polygon 0 0 4 0 4 1 2 3 0 1"), 0, 1, 2, 3, true);
            see(loaded("polygon 0 0 4 0 4 1 2 3 1 1 0 1"), 0, 1, 2, 3, false);
        });
        says("(it may touch or run along the boundary).", () -> {
            // through a vertex, along an edge, along it and beyond, along edges with a flat angle between them
            see(loaded(Probe.ELL), 2, 0, 0, 2, true);
            see(loaded(Probe.ELL), 4, 0, 0, 0, true);
            see(loaded(Probe.ELL), 4, 1, 0, 1, true);
            see(loaded(Probe.YOU), 0, 1, 3, 1, true);
            see(loaded(HEART), 0, 4, 4, 0, true);
            see(loaded(SPIKE), 0, 1, 6, 1, true);
            see(loaded(TWELVE), 0, 0, 4, 0, true);
            see(loaded(TWELVE), 0, 4, 0, 0, true);
            // touched from both sides
            see(loaded(WEDGES), 0, 0, 3, 3, true);
            see(loaded(WEDGES), 0, 1, 3, 3, false);
            see(loaded(WEDGES), 0, 0, 3, 2, false);
            // along an edge, over a vertex into a wedge that is not inside
            see(loaded("polygon 0 0 5 0 5 3 3 2 1 2 0 3"), 1, 2, 3, 2, true);
            see(loaded("polygon 0 0 5 0 5 3 3 2 1 2 0 3"), 0, 2, 5, 2, true);
            see(loaded("polygon 0 0 5 0 5 2 4 3 3 2 1 2 0 4"), 1, 2, 5, 2, true);
            see(loaded("polygon 0 0 5 0 5 2 4 1 3 2 1 2 0 4"), 1, 2, 5, 2, false);
        });
        says("Each point sees itself.", () -> {
            for (String numbers : Shapes.bothWays()) {
                GalleryGuards g = loaded("polygon " + numbers);
                for (int p = 0; p < g.points(); p++) {
                    due("point " + p + " of " + numbers, g.sees(p, p), true);
                    due("visible(" + p + ") of " + numbers, has(g.visible(p), p), true);
                }
            }
        });
    }

    private void paths() {
        says("The link distance of two points is the smallest number of segments of a path from one to the other",
                () -> {
            GalleryGuards you = loaded(Probe.YOU);
            due("in one arm", you.linkDistance(at(you, 0, 0), at(you, 1, 3)), 1);
            due("(0, 3) to (3, 2), by (2, 1)", you.linkDistance(at(you, 0, 3), at(you, 3, 2)), 2);
            due("from arm to arm", you.linkDistance(at(you, 0, 3), at(you, 3, 3)), 3);
            GalleryGuards spiral = loaded(SPIRAL);
            due("a spiral's ends", spiral.linkDistance(at(spiral, 0, 0), at(spiral, 6, 4)), 5);
        });
        says("whose segments each join two points that see each other;", () -> {
            for (String numbers : Shapes.bothWays()) {
                GalleryGuards g = loaded("polygon " + numbers);
                for (int p = 0; p < g.points(); p += 3) {
                    int[] links = linksFrom(g, p);
                    for (int q = 0; q < g.points(); q++) {
                        due(p + " to " + q + " of " + numbers, g.linkDistance(p, q), links[q]);
                    }
                }
            }
        });
        says("it is 0 for equal points.", () -> {
            GalleryGuards full = loaded(FULL);
            GalleryGuards spiral = loaded(SPIRAL);
            for (int p = 0; p < 64; p++) {
                due("point " + p, full.linkDistance(p, p), 0);
            }
            due("the first point of a spiral", spiral.linkDistance(0, 0), 0);
            due("the last one", spiral.linkDistance(spiral.points() - 1, spiral.points() - 1), 0);
        });
    }

    /** The link distances from a point to all points, a step at a time. */
    private static int[] linksFrom(GalleryGuards g, int start) {
        int[] links = new int[g.points()];
        Arrays.fill(links, 99);
        links[start] = 0;
        for (int steps = 0; steps < g.points(); steps++) {
            for (int p = 0; p < g.points(); p++) {
                for (int q = 0; q < g.points() && links[p] == steps; q++) {
                    if (g.sees(p, q)) {
                        links[q] = Math.min(links[q], steps + 1);
                    }
                }
            }
        }
        return links;
    }

    private void guardsOfTwoKinds() {
        says("A vertex, as a guard, sees what its point sees.", () -> {
            // (0, 0) of the ell sees all; (4, 0), (4, 1), (1, 4) and (0, 4) see one arm each; (1, 1) sees all
            due("vertex 0 alone", loaded(Probe.ELL).vertexGuards(), 1);
            due("vertex 1 alone", loaded("polygon 0 4 0 0 4 0 4 1 1 1 1 4").vertexGuards(), 1 << 1);
            due("vertex 2 alone", loaded("polygon 4 0 4 1 1 1 1 4 0 4 0 0").vertexGuards(), 1 << 2);
            GalleryGuards g = loaded("polygon 4 0 4 1 1 1 1 4 0 4 0 0");
            due("what it sees", g.visible(at(g, 1, 1)), 65535);
            // two vertices of the you, though one edge is enough
            due("vertices 0 and 1", loaded(Probe.YOU).vertexGuards(), 3);
        });
        says("An edge sees a point if one of the points (with integer coordinates) on the edge sees it.", () -> {
            // its ends
            GalleryGuards ell = loaded(Probe.ELL);
            due("from (0, 4) to (0, 0)", ell.seenFromEdge(5), 65535);
            due("from (4, 1) to (1, 1)", ell.seenFromEdge(2), 65535);
            // points between them that see more than the ends do
            GalleryGuards tee = loaded("polygon 4 0 4 1 3 1 3 4 2 4 2 1 0 1 0 0");
            see(tee, 0, 0, 2, 4, false);
            see(tee, 4, 0, 2, 4, false);
            see(tee, 2, 0, 2, 4, true);
            due("from (0, 0) to (4, 0)", tee.seenFromEdge(7), everyPoint(tee));
            // (0, 1) is seen from the middle of the edge from (1, 5) to (4, 0), which has no integer coordinates
            GalleryGuards slit = loaded("polygon 4 0 2 2 0 1 1 3 1 5");
            due("from (1, 5) to (4, 0)", slit.seenFromEdge(4), everyPoint(slit) ^ 1L << at(slit, 0, 1));
            // a point in line with an edge, but not on it, does not count
            GalleryGuards step = loaded("polygon 0 0 4 0 4 1 2 1 2 2 0 2");
            due("from (4, 1) to (2, 1)", has(step.seenFromEdge(2), at(step, 0, 2)), true);
            due("from (4, 0) to (4, 1)", step.seenFromEdge(1), set(0, 1, 2, 3, 4, 5, 6, 7, 8, 9, 10));
        });
    }

    private void seeingPromises() {
        promise(17);
        says("Tells whether two points see each other.", () -> {
            GalleryGuards g = loaded(Probe.YOU);
            see(g, 0, 0, 3, 0, true);
            see(g, 0, 3, 3, 3, false);
        });
        says(POINT, () -> below(64, loaded(FULL), (g, p) -> g.sees(p, 0)));
        says("- `other`: number of a point,", () -> below(64, loaded(FULL), (g, p) -> g.sees(0, p)));
        says("possibly the same", () -> {
            GalleryGuards g = loaded(FULL);
            due("sees(0, 0)", g.sees(0, 0), true);
            due("sees(63, 63)", g.sees(63, 63), true);
        });
        says("Returns true if they do.", () -> {
            GalleryGuards g = loaded(FULL);
            due("sees(0, 63)", g.sees(0, 63), true);
            due("sees(63, 0)", g.sees(63, 0), true);
            due("sees(9, 15) of the ell", loaded(Probe.ELL).sees(9, 15), false);
        });
        says(NO_POLYGON, () -> noPolygon(g -> g.sees(0, 0), g -> g.sees(-1, 0), g -> g.sees(0, 64)));
        says(NO_POINT, () -> {
            below(16, loaded(Probe.ELL), (g, p) -> g.sees(p, 15));
            below(16, loaded(Probe.ELL), (g, p) -> g.sees(15, p));
            below(16, loaded(Probe.ELL), (g, p) -> g.sees(p, p));
        });
        promise(18);
        says("Returns the points that a point sees, itself included.", () -> {
            GalleryGuards g = loaded(Probe.ELL);
            due("visible of (4, 1)", g.visible(9), 1023);
            due("visible of (1, 4)", g.visible(15), 0xfc63);
            due("visible of (3, 0)", g.visible(3), 1023);
            due("visible of (2, 0)", g.visible(2), 1023 | 1 << 10);
        });
        says(POINT, () -> below(64, loaded(FULL), GalleryGuards::visible));
        says("Returns the set of points.", () -> {
            GalleryGuards g = loaded(Probe.YOU);
            for (int p = 0; p < 16; p++) {
                for (int q = 0; q < 16; q++) {
                    due("visible(" + p + ") has " + q, has(g.visible(p), q), g.sees(p, q));
                }
                due("visible(" + p + ") has no others", g.visible(p) >>> 16, 0);
            }
            due("visible(63)", loaded(FULL).visible(63), -1L);
        });
        says(NO_POLYGON, () -> noPolygon(g -> g.visible(0), g -> g.visible(-1), g -> g.visible(64)));
        says(NO_POINT, () -> below(16, loaded(Probe.ELL), GalleryGuards::visible));
        promise(19);
        says("Returns the points that see all points.", () -> {
            due("ell", loaded(Probe.ELL).kernel(), set(0, 1, 5, 6));
            due("square", loaded(Probe.SQUARE).kernel(), 511);
            due("one point, the last of 64", loaded("polygon " + Shapes.LAST_SEES_ALL).kernel(), Long.MIN_VALUE);
            due("nine points", loaded("polygon 4 0 5 3 8 4 5 5 4 8 3 5 0 4 3 3").kernel(), kernelOfStar());
        });
        says("Returns the set of points, possibly empty.", () -> {
            due("none", loaded(Probe.YOU).kernel(), 0);
            due("64 points", loaded(FULL).kernel(), -1L);
        });
        says(NO_POLYGON, () -> noPolygon(GalleryGuards::kernel));
    }

    /** The middle of the star and its four inner corners see into all its tips. */
    private static long kernelOfStar() {
        GalleryGuards g = loaded("polygon 4 0 5 3 8 4 5 5 4 8 3 5 0 4 3 3");
        long middle = 0;
        for (int y = 3; y <= 5; y++) {
            for (int x = 3; x <= 5; x++) {
                middle |= 1L << at(g, x, y);
            }
        }
        return middle;
    }

    private void linkPromises() {
        promise(20);
        says("Returns the link distance of two points.", () -> {
            GalleryGuards g = loaded(Probe.ELL);
            due("(0, 0) to (1, 4)", g.linkDistance(0, 15), 1);
            due("(4, 1) to (1, 4)", g.linkDistance(9, 15), 2);
            due("(1, 4) to (4, 1)", g.linkDistance(15, 9), 2);
        });
        says(POINT, () -> below(64, loaded(FULL), (g, p) -> g.linkDistance(p, 0)));
        says("- `other`: number of a point,", () -> below(64, loaded(FULL), (g, p) -> g.linkDistance(0, p)));
        says("possibly the same", () -> due("linkDistance(63, 63)", loaded(FULL).linkDistance(63, 63), 0));
        says("Returns the distance.", () -> due("linkDistance(0, 63)", loaded(FULL).linkDistance(0, 63), 1));
        says(NO_POLYGON, () -> noPolygon(g -> g.linkDistance(0, 0), g -> g.linkDistance(-1, 64)));
        says(NO_POINT, () -> {
            below(16, loaded(Probe.ELL), (g, p) -> g.linkDistance(p, 15));
            below(16, loaded(Probe.ELL), (g, p) -> g.linkDistance(15, p));
            // equal numbers of no point
            below(16, loaded(Probe.ELL), (g, p) -> g.linkDistance(p, p));
        });
        promise(21);
        says("Returns the greatest link distance of two points.", () -> {
            due("ell", loaded(Probe.ELL).diameter(), 2);
            due("you", loaded(Probe.YOU).diameter(), 3);
            due("spiral", loaded(SPIRAL).diameter(), 5);
            for (String numbers : Shapes.bothWays()) {
                GalleryGuards g = loaded("polygon " + numbers);
                int most = 0;
                for (int p = 0; p < g.points(); p++) {
                    for (int q = 0; q < g.points(); q++) {
                        most = Math.max(most, g.linkDistance(p, q));
                    }
                }
                due("diameter of " + numbers, g.diameter(), most);
            }
        });
        says("Returns the distance.", () -> {
            due("the fewest points", loaded("polygon 0 0 1 0 0 1").diameter(), 1);
            due("the most points", loaded(FULL).diameter(), 1);
        });
        says(NO_POLYGON, () -> noPolygon(GalleryGuards::diameter));
        promise(22);
        says("Finds the point with the greatest link distance from a point.", () -> {
            GalleryGuards g = loaded(Probe.YOU);
            due("from (0, 3)", g.farthest(12), 10);
            due("from (3, 3)", g.farthest(15), 9);
            due("from (0, 0)", g.farthest(0), 10);
        });
        says(POINT, () -> below(64, loaded(FULL), GalleryGuards::farthest));
        says("Returns the number of the other point, of several the smallest one.", () -> {
            due("from 0, all are as far", loaded(FULL).farthest(0), 1);
            due("from 1, all are as far", loaded(FULL).farthest(1), 0);
            due("from 63, all are as far", loaded(FULL).farthest(63), 0);
            due("63 alone is farthest", loaded("polygon " + Shapes.LAST_IS_FARTHEST).farthest(0), 63);
            for (String numbers : Shapes.bothWays()) {
                GalleryGuards g = loaded("polygon " + numbers);
                for (int p = 0; p < g.points(); p++) {
                    int best = 0;
                    for (int q = 1; q < g.points(); q++) {
                        best = g.linkDistance(p, q) > g.linkDistance(p, best) ? q : best;
                    }
                    due("farthest(" + p + ") of " + numbers, g.farthest(p), best);
                }
            }
        });
        says(NO_POLYGON, () -> noPolygon(g -> g.farthest(0), g -> g.farthest(-1), g -> g.farthest(64)));
        says(NO_POINT, () -> below(16, loaded(Probe.ELL), GalleryGuards::farthest));
    }

    /** What the points see together for which the way from end to end of the edge is no detour. */
    private static long seenFrom(GalleryGuards g, int edge) {
        int next = (edge + 1) % g.vertices();
        double length = Math.hypot(g.vertexX(next) - g.vertexX(edge), g.vertexY(next) - g.vertexY(edge));
        long seen = 0;
        for (int p = 0; p < g.points(); p++) {
            double there = Math.hypot(g.pointX(p) - g.vertexX(edge), g.pointY(p) - g.vertexY(edge));
            double onwards = Math.hypot(g.vertexX(next) - g.pointX(p), g.vertexY(next) - g.pointY(p));
            seen |= there + onwards < length + 1e-9 ? g.visible(p) : 0;
        }
        return seen;
    }

    private void edgePromise() {
        promise(23);
        says("Returns the points that an edge sees.", () -> {
            GalleryGuards g = loaded(Probe.ELL);
            due("edge 1", g.seenFromEdge(1), 1023);
            due("edge 4", g.seenFromEdge(4), 0xfc63);
            GalleryGuards you = loaded(Probe.YOU);
            due("an arm's outer edge", you.seenFromEdge(7), 65535 ^ set(10, 11, 14, 15));
            due("an arm's end", you.seenFromEdge(6), set(0, 1, 4, 5, 8, 9, 12, 13));
        });
        says("- `edge`: number of the edge", () -> {
            for (String numbers : Shapes.bothWays()) {
                GalleryGuards g = loaded("polygon " + numbers);
                for (int e = 0; e < g.vertices(); e++) {
                    due("seenFromEdge(" + e + ") of " + numbers, g.seenFromEdge(e), seenFrom(g, e));
                }
            }
            below(12, loaded(TWELVE), GalleryGuards::seenFromEdge);
        });
        says("Returns the set of points.", () -> due("64 points", loaded(FULL).seenFromEdge(3), -1L));
        says(NO_POLYGON, () -> noPolygon(g -> g.seenFromEdge(0), g -> g.seenFromEdge(-1), g -> g.seenFromEdge(12)));
        says("Throws `IndexOutOfBoundsException` if there is no such edge", () -> {
            below(3, loaded(TRIANGLE), GalleryGuards::seenFromEdge);
            below(6, loaded(Probe.ELL), GalleryGuards::seenFromEdge);
        });
    }
}

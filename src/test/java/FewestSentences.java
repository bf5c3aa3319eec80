import java.util.ArrayList;
import java.util.List;

/** Promises 28 to 34: fewest guards and witnesses. */
final class FewestSentences extends Sentences {
    /** Three teeth and a level edge below them all. */
    private static final String THREE_TEETH = "polygon 0 0 10 0 9 4 8 1 6 1 5 4 4 1 2 1 1 4";
    private static final String NO_INDEX = "Throws `IndexOutOfBoundsException` if there is no such index";

    /** Whether the points may be together in the set that is looked for. */
    private interface Apart {
        boolean are(int point, int other);
    }

    FewestSentences(Document document) {
        super(document);
    }

    @Override
    void all() {
        vertexGuards();
        edgeGuards();
        guardNumber();
        guardPoint();
        witnessNumber();
        witness();
        hiddenNumber();
    }

    /** The set with the fewest elements whose views together are all points, of several the smallest number. */
    private static int fewest(long[] views, long all) {
        int best = (1 << views.length) - 1;
        for (int set = best; set >= 1; set--) {
            long seen = 0;
            for (int e : elements(set)) {
                seen |= views[e];
            }
            if (seen == all && Integer.bitCount(set) <= Integer.bitCount(best)) {
                best = set;
            }
        }
        return best;
    }

    private void vertexGuards() {
        promise(28);
        says("Finds the fewest vertices that together see all points;", () -> {
            due("one", loaded(Probe.ELL).vertexGuards(), 1);
            due("two", loaded(Probe.YOU).vertexGuards(), 3);
            due("three", Integer.bitCount(loaded(THREE_TEETH).vertexGuards()), 3);
            due("four", Integer.bitCount(loaded(Probe.COMB).vertexGuards()), 4);
            due("(2, 3) and (1, 1)", loaded("polygon 2 3 2 1 1 1 1 3 0 3 0 0 3 0 3 3").vertexGuards(), 1 << 0 | 1 << 2);
        });
        says("of several such sets the one that is smallest as a number.", () -> {
            due("each vertex sees all", loaded(TWELVE).vertexGuards(), 1);
            for (String numbers : Shapes.bothWays()) {
                GalleryGuards g = loaded("polygon " + numbers);
                long[] views = new long[g.vertices()];
                for (int v = 0; v < views.length; v++) {
                    views[v] = g.visible(g.pointAt(g.vertexX(v), g.vertexY(v)));
                }
                due("vertexGuards of " + numbers, g.vertexGuards(), fewest(views, everyPoint(g)));
            }
        });
        says("Returns the set of vertices.", () -> due("vertex 2", loaded(turnedEll()).vertexGuards(), 1 << 2));
        says(NO_POLYGON, () -> noPolygon(GalleryGuards::vertexGuards));
    }

    /** The first vertex that sees all is vertex 2, and the first such edge the one that leads to it. */
    private static String turnedEll() {
        return "polygon 4 0 4 1 1 1 1 4 0 4 0 0";
    }

    private void edgeGuards() {
        promise(29);
        says("Finds the fewest edges that together see all points;", () -> {
            due("one", loaded(Probe.YOU).edgeGuards(), 1);
            due("two", Integer.bitCount(loaded(SPIRAL).edgeGuards()), 2);
        });
        says("of several such sets the one that is smallest as a number.", () -> {
            due("each edge sees all", loaded(TWELVE).edgeGuards(), 1);
            for (String numbers : Shapes.bothWays()) {
                GalleryGuards g = loaded("polygon " + numbers);
                long[] views = new long[g.vertices()];
                for (int e = 0; e < views.length; e++) {
                    views[e] = g.seenFromEdge(e);
                }
                due("edgeGuards of " + numbers, g.edgeGuards(), fewest(views, everyPoint(g)));
            }
        });
        says("Returns the set of edges.", () -> {
            due("edge 1", loaded(turnedEll()).edgeGuards(), 1 << 1);
            due("edge 11", loaded("polygon 14 0 13 4 12 1 10 1 9 4 8 1 6 1 5 4 4 1 2 1 1 4 0 0").edgeGuards(), 1 << 11);
        });
        says(NO_POLYGON, () -> noPolygon(GalleryGuards::edgeGuards));
    }

    private void guardNumber() {
        promise(30);
        says("Returns the smallest number of points that together see all points.", () -> {
            for (String numbers : Shapes.bothWays()) {
                GalleryGuards g = loaded("polygon " + numbers);
                due("guardNumber of " + numbers, g.guardNumber(), firstCover(g).size());
            }
        });
        says("Returns the number, 1 to 4.", () -> {
            due("1 of 3 points", loaded("polygon 0 0 1 0 0 1").guardNumber(), 1);
            due("1 of 64 points", loaded(FULL).guardNumber(), 1);
            due("2", loaded(Probe.YOU).guardNumber(), 2);
            due("3", loaded(THREE_TEETH).guardNumber(), 3);
            due("4", loaded(Probe.COMB).guardNumber(), 4);
        });
        says(NO_POLYGON, () -> noPolygon(GalleryGuards::guardNumber));
    }

    /** Of the smallest sets that see all, the first one in the order of their points. */
    private static List<Integer> firstCover(GalleryGuards g) {
        long[] views = new long[g.points()];
        for (int p = 0; p < views.length; p++) {
            views[p] = g.visible(p);
        }
        for (int size = 1; size <= views.length; size++) {
            List<Integer> found = coverFrom(views, 0, size, everyPoint(g));
            if (found != null) {
                return found;
            }
        }
        return new ArrayList<>();
    }

    private static List<Integer> coverFrom(long[] views, int first, int size, long missing) {
        if (missing == 0) {
            return new ArrayList<>();
        }
        for (int p = first; p < views.length && size > 0; p++) {
            List<Integer> rest = coverFrom(views, p + 1, size - 1, missing & ~views[p]);
            if (rest != null) {
                rest.add(0, p);
                return rest;
            }
        }
        return null;
    }

    private void guardPoint() {
        promise(31);
        says("Returns a point of the best set of guardNumber points that together see all points:", () -> {
            GalleryGuards g = loaded(Probe.COMB);
            long seen = 0;
            for (int i = 0; i < 4; i++) {
                seen |= g.visible(g.guardPoint(i));
            }
            due("what four see", seen, everyPoint(g));
        });
        says("of several sets the one whose points, in increasing order, are lexicographically smallest.", () -> {
            due("each point sees all", loaded(FULL).guardPoint(0), 0);
            GalleryGuards you = loaded(Probe.YOU);
            due("the first of two", you.guardPoint(0), 0);
            due("the second of two", you.guardPoint(1), 2);
            for (String numbers : Shapes.bothWays()) {
                GalleryGuards g = loaded("polygon " + numbers);
                List<Integer> found = new ArrayList<>();
                for (int i = 0; i < g.guardNumber(); i++) {
                    found.add(g.guardPoint(i));
                }
                due("the guards of " + numbers, found, firstCover(g));
            }
        });
        says("- `i`: index, 0 to guardNumber() - 1", () -> {
            below(1, loaded(Probe.ELL), GalleryGuards::guardPoint);
            below(4, loaded(Probe.COMB), GalleryGuards::guardPoint);
        });
        says("Returns the number of the point.", () -> {
            due("the first one", loaded(turnedEll()).guardPoint(0), 0);
            due("the last one of 64", loaded("polygon " + Shapes.LAST_SEES_ALL).guardPoint(0), 63);
        });
        says(NO_POLYGON, () -> noPolygon(g -> g.guardPoint(0), g -> g.guardPoint(-1), g -> g.guardPoint(4)));
        says(NO_INDEX, () -> {
            below(1, loaded(FULL), GalleryGuards::guardPoint);
            below(2, loaded(Probe.YOU), GalleryGuards::guardPoint);
            below(3, loaded(THREE_TEETH), GalleryGuards::guardPoint);
            // fewer after a call that found more
            GalleryGuards g = loaded(Probe.COMB);
            g.guardPoint(3);
            reload(g, Probe.YOU);
            below(2, g, GalleryGuards::guardPoint);
        });
    }

    /** Of the largest sets of points that are apart, the first one in the order of their points. */
    private static List<Integer> largestApart(int points, Apart apart) {
        return apartFrom(points, 0, new ArrayList<>(), new ArrayList<>(), apart);
    }

    private static List<Integer> apartFrom(int points, int first, List<Integer> taken, List<Integer> best,
            Apart apart) {
        List<Integer> found = taken.size() > best.size() ? new ArrayList<>(taken) : best;
        for (int p = first; p < points; p++) {
            boolean free = true;
            for (int q : taken) {
                free &= apart.are(p, q);
            }
            if (free) {
                taken.add(p);
                found = apartFrom(points, p + 1, taken, found, apart);
                taken.remove(taken.size() - 1);
            }
        }
        return found;
    }

    private static List<Integer> firstWitnesses(GalleryGuards g) {
        return largestApart(g.points(), (p, q) -> (g.visible(p) & g.visible(q)) == 0);
    }

    private void witnessNumber() {
        promise(32);
        says("Returns the greatest number of points of which no two are seen by the same point.", () -> {
            for (String numbers : Shapes.bothWays()) {
                GalleryGuards g = loaded("polygon " + numbers);
                due("witnessNumber of " + numbers, g.witnessNumber(), firstWitnesses(g).size());
            }
        });
        says("(No set of fewer points can see all of them.)", () -> {
            for (String numbers : Shapes.bothWays()) {
                GalleryGuards g = loaded("polygon " + numbers);
                due("at most guardNumber in " + numbers, g.witnessNumber() <= g.guardNumber(), true);
            }
        });
        says("Returns the number, 1 to 4.", () -> {
            due("1 of 3 points", loaded("polygon 0 0 1 0 0 1").witnessNumber(), 1);
            due("1 of 64 points", loaded(FULL).witnessNumber(), 1);
            due("2", loaded(Probe.YOU).witnessNumber(), 2);
            due("3", loaded(THREE_TEETH).witnessNumber(), 3);
            due("4", loaded(Probe.COMB).witnessNumber(), 4);
        });
        says(NO_POLYGON, () -> noPolygon(GalleryGuards::witnessNumber));
    }

    private void witness() {
        promise(33);
        says("Returns a point of the best set of witnessNumber points of which no two are seen by the same point:",
                () -> {
            GalleryGuards g = loaded(Probe.COMB);
            for (int i = 0; i < 4; i++) {
                for (int k = 0; k < i; k++) {
                    due("points that see both", g.visible(g.witness(i)) & g.visible(g.witness(k)), 0);
                }
            }
        });
        says("of several sets the one whose points, in increasing order, are lexicographically smallest.", () -> {
            due("any point alone", loaded(FULL).witness(0), 0);
            GalleryGuards you = loaded(Probe.YOU);
            due("the first of two", you.witness(0), 9);
            due("the second of two", you.witness(1), 10);
            for (String numbers : Shapes.bothWays()) {
                GalleryGuards g = loaded("polygon " + numbers);
                List<Integer> found = new ArrayList<>();
                for (int i = 0; i < g.witnessNumber(); i++) {
                    found.add(g.witness(i));
                }
                due("the witnesses of " + numbers, found, firstWitnesses(g));
            }
        });
        says("- `i`: index, 0 to witnessNumber() - 1", () -> {
            below(1, loaded(Probe.ELL), GalleryGuards::witness);
            below(4, loaded(Probe.COMB), GalleryGuards::witness);
        });
        says("Returns the number of the point.", () -> {
            due("the first one", loaded("polygon " + Shapes.LAST_IS_FARTHEST).witness(0), 0);
            due("the last one of 64", loaded("polygon " + Shapes.LAST_IS_FARTHEST).witness(1), 63);
        });
        says(NO_POLYGON, () -> noPolygon(g -> g.witness(0), g -> g.witness(-1), g -> g.witness(4)));
        says(NO_INDEX, () -> {
            below(1, loaded(FULL), GalleryGuards::witness);
            below(2, loaded(Probe.YOU), GalleryGuards::witness);
            below(3, loaded(THREE_TEETH), GalleryGuards::witness);
            GalleryGuards g = loaded(Probe.COMB);
            g.witness(3);
            reload(g, Probe.YOU);
            below(2, g, GalleryGuards::witness);
        });
    }

    private void hiddenNumber() {
        promise(34);
        says("Returns the greatest number of points of which no two see each other.", () -> {
            for (String numbers : Shapes.bothWays()) {
                GalleryGuards g = loaded("polygon " + numbers);
                due("hiddenNumber of " + numbers, g.hiddenNumber(),
                        largestApart(g.points(), (p, q) -> !has(g.visible(p), q)).size());
            }
        });
        says("Returns the number.", () -> {
            due("one of 3 points", loaded("polygon 0 0 1 0 0 1").hiddenNumber(), 1);
            due("one of 64 points", loaded(FULL).hiddenNumber(), 1);
            due("ell", loaded(Probe.ELL).hiddenNumber(), 2);
            due("comb", loaded(Probe.COMB).hiddenNumber(), 5);
        });
        says(NO_POLYGON, () -> noPolygon(GalleryGuards::hiddenNumber));
    }
}

/** Promises 54 to 56: the changes of the polygon. */
final class VertexChangeSentences extends Sentences {
    private static final String WRONG_PLACE = "Throws `IllegalArgumentException` if x or y is out of range,";
    private static final String IMPOSSIBLE = "or the change of the polygon is not possible (section 6)";
    private static final String AFTERWARDS = "Returns the number of points afterwards.";

    VertexChangeSentences(Document document) {
        super(document);
    }

    @Override
    void all() {
        moveVertex();
        insertVertex();
        deleteVertex();
    }

    private void moveVertex() {
        promise(54);
        says("Moves a vertex.", () -> {
            GalleryGuards g = loaded(Probe.SQUARE);
            g.moveVertex(2, 3, 3);
            due("vertex 2", Probe.stateOf(g), "0,0 2,0 3,3 0,2 /10///1");
            g.moveVertex(0, 0, 1);
            due("vertex 0", Probe.stateOf(g), "0,1 2,0 3,3 0,2 /8///2");
            g.moveVertex(3, 1, 3);
            due("the last one", Probe.stateOf(g), "0,1 2,0 3,3 1,3 /9///3");
        });
        says(IS_A_CHANGE, () -> {
            isChange(() -> loaded(GUARDED), g -> g.moveVertex(2, 3, 3));
            GalleryGuards g = loaded(Probe.SQUARE);
            g.moveVertex(2, 2, 2);
            due("to where it is", g.undoable(), 1);
        });
        says(VERTEX, () -> below(12, loaded(TWELVE), (g, v) -> g.moveVertex(v, cornerX(g, v), cornerY(g, v))));
        says("- `x`: 0 to 15", () -> {
            GalleryGuards g = loaded("polygon 1 0 14 0 14 1 1 1");
            due("0", g.moveVertex(0, 0, 0), 29);
            due("15", g.moveVertex(1, 15, 0), 30);
        });
        says("- `y`: 0 to 15", () -> {
            GalleryGuards g = loaded("polygon 0 1 0 14 1 14 1 1");
            due("0", g.moveVertex(0, 0, 0), 29);
            due("15", g.moveVertex(1, 0, 15), 30);
        });
        says(AFTERWARDS, () -> {
            GalleryGuards g = loaded(Probe.SQUARE);
            due("fewer", g.moveVertex(2, 1, 1), 6);
            due("more", g.moveVertex(2, 3, 3), 10);
            due("as many", g.moveVertex(2, 3, 3), 10);
        });
        says(NO_POLYGON, () -> noPolygon(g -> g.moveVertex(0, 0, 0), g -> g.moveVertex(-1, 0, 0),
                g -> g.moveVertex(0, 16, 0)));
        says(NO_VERTEX, () -> {
            GalleryGuards g = loaded(Probe.SQUARE);
            int[] others = {-1, 4, 11, 12, Integer.MIN_VALUE, Integer.MAX_VALUE};
            for (int vertex : others) {
                leavesAll(g, INDEX, () -> g.moveVertex(vertex, 1, 1));
                leavesAll(g, INDEX, () -> g.moveVertex(vertex, 16, -1));
            }
        });
        says(WRONG_PLACE, () -> {
            outside(0, 15, loaded("polygon 0 0 1 0 1 1"), (g, x) -> g.moveVertex(0, x, 0));
            outside(0, 15, loaded("polygon 0 0 1 0 1 1"), (g, y) -> g.moveVertex(0, 0, y));
            outside(0, 15, loaded("polygon 15 15 14 15 14 14"), (g, x) -> g.moveVertex(0, x, 15));
            outside(0, 15, loaded("polygon 15 15 14 15 14 14"), (g, y) -> g.moveVertex(0, 15, y));
        });
        says(IMPOSSIBLE, () -> {
            GalleryGuards g = loaded(Probe.SQUARE + ";guard 0 2 range 1;treasure 2 1 5");
            leavesAll(g, ARGUMENT, () -> g.moveVertex(0, 2, 0));
            leavesAll(g, ARGUMENT, () -> g.moveVertex(0, 3, 1));
            leavesAll(g, ARGUMENT, () -> g.moveVertex(3, 1, 2));
            leavesAll(g, ARGUMENT, () -> g.moveVertex(2, 1, 2));
            GalleryGuards full = loaded(FULL);
            leavesAll(full, ARGUMENT, () -> full.moveVertex(2, 8, 8));
            GalleryGuards line = loaded(TRIANGLE);
            leavesAll(line, ARGUMENT, () -> line.moveVertex(2, 2, 0));
            leavesAll(line, ARGUMENT, () -> line.moveVertex(2, 9, 0));
        });
    }

    /** A coordinate that can be asked for with any number, so that moveVertex is what throws. */
    private static int cornerX(GalleryGuards g, int vertex) {
        return vertex >= 0 && vertex < g.vertices() ? g.vertexX(vertex) : 0;
    }

    private static int cornerY(GalleryGuards g, int vertex) {
        return vertex >= 0 && vertex < g.vertices() ? g.vertexY(vertex) : 0;
    }

    private void insertVertex() {
        promise(55);
        says("Inserts a vertex behind a vertex;", () -> {
            GalleryGuards g = loaded(Probe.SQUARE);
            g.insertVertex(0, 1, 0);
            due("behind vertex 0", Probe.stateOf(g), "0,0 1,0 2,0 2,2 0,2 /9///1");
            g.insertVertex(4, 0, 1);
            due("behind the last one", Probe.stateOf(g), "0,0 1,0 2,0 2,2 0,2 0,1 /9///2");
        });
        says("the numbers of the later ones increase by 1.", () -> {
            GalleryGuards g = loaded(Probe.ELL);
            g.insertVertex(2, 2, 1);
            due("behind vertex 2", Probe.stateOf(g), "0,0 4,0 4,1 2,1 1,1 1,4 0,4 /16///1");
            due("the angle above 180 degrees", g.reflexVertices(), 1 << 4);
            GalleryGuards eleven = loaded("polygon 0 0 2 0 4 0 4 1 4 3 4 4 2 4 0 4 0 3 0 2 0 1");
            eleven.insertVertex(0, 1, 0);
            due("to 12", Probe.stateOf(eleven), "0,0 1,0 2,0 4,0 4,1 4,3 4,4 2,4 0,4 0,3 0,2 0,1 /25///1");
        });
        says(IS_A_CHANGE, () -> {
            isChange(() -> loaded(GUARDED), g -> g.insertVertex(1, 3, 1));
            isChange(() -> loaded(GUARDED), g -> g.insertVertex(3, 0, 1));
        });
        says(VERTEX, () -> {
            int[] places = {1, 0, 2, 1, 1, 2, 0, 1};
            for (int v = 0; v < 4; v++) {
                GalleryGuards g = loaded(Probe.SQUARE);
                due("behind " + v, g.insertVertex(v, places[2 * v], places[2 * v + 1]), 9);
                due("its x", g.vertexX(v + 1), places[2 * v]);
                due("its y", g.vertexY(v + 1), places[2 * v + 1]);
            }
        });
        says("- `x`: 0 to 15", () -> {
            due("0", loaded("polygon 1 0 2 0 2 2 1 2").insertVertex(3, 0, 1), 7);
            due("15", loaded("polygon 13 0 14 0 14 2 13 2").insertVertex(1, 15, 1), 7);
        });
        says("- `y`: 0 to 15", () -> {
            due("0", loaded("polygon 0 1 0 2 2 2 2 1").insertVertex(3, 1, 0), 7);
            due("15", loaded("polygon 0 13 0 14 2 14 2 13").insertVertex(1, 1, 15), 7);
        });
        says(AFTERWARDS, () -> {
            GalleryGuards g = loaded(FULL);
            due("as many", g.insertVertex(0, 3, 0), 64);
            due("fewer", g.insertVertex(3, 3, 1), 42);
            due("more", loaded(Probe.SQUARE).insertVertex(1, 4, 1), 11);
        });
        says(NO_POLYGON, () -> noPolygon(g -> g.insertVertex(0, 0, 0), g -> g.insertVertex(-1, 0, 0),
                g -> g.insertVertex(0, 0, 16)));
        says(NO_VERTEX, () -> {
            GalleryGuards g = loaded(Probe.SQUARE);
            int[] others = {-1, 4, 11, 12, Integer.MIN_VALUE, Integer.MAX_VALUE};
            for (int vertex : others) {
                leavesAll(g, INDEX, () -> g.insertVertex(vertex, 0, 1));
                leavesAll(g, INDEX, () -> g.insertVertex(vertex, -1, 16));
            }
            GalleryGuards twelve = loaded(TWELVE);
            leavesAll(twelve, INDEX, () -> twelve.insertVertex(12, 3, 0));
        });
        says(WRONG_PLACE, () -> {
            outside(0, 15, loaded(Probe.SQUARE), (g, x) -> g.insertVertex(3, x, 1));
            outside(0, 15, loaded(Probe.SQUARE), (g, y) -> g.insertVertex(0, 1, y));
            outside(0, 15, loaded("polygon 13 13 15 13 15 15 13 15"), (g, x) -> g.insertVertex(1, x, 14));
            outside(0, 15, loaded("polygon 13 13 15 13 15 15 13 15"), (g, y) -> g.insertVertex(2, 14, y));
        });
        says(IMPOSSIBLE, () -> {
            GalleryGuards g = loaded(Probe.SQUARE + ";guard 1 2;treasure 2 1 5");
            leavesAll(g, ARGUMENT, () -> g.insertVertex(0, 2, 0));
            leavesAll(g, ARGUMENT, () -> g.insertVertex(0, 1, 3));
            leavesAll(g, ARGUMENT, () -> g.insertVertex(2, 1, 1));
            leavesAll(g, ARGUMENT, () -> g.insertVertex(1, 1, 1));
            GalleryGuards full = loaded(FULL);
            leavesAll(full, ARGUMENT, () -> full.insertVertex(1, 8, 3));
            GalleryGuards twelve = loaded(TWELVE);
            leavesAll(twelve, ARGUMENT, () -> twelve.insertVertex(2, 3, 0));
            leavesAll(twelve, ARGUMENT, () -> twelve.insertVertex(11, 1, 1));
        });
    }

    private void deleteVertex() {
        promise(56);
        says("Deletes a vertex;", () -> {
            GalleryGuards g = loaded(Probe.SQUARE);
            g.deleteVertex(3);
            due("the last one", Probe.stateOf(g), "0,0 2,0 2,2 /6///1");
        });
        says("the numbers of the later ones decrease by 1.", () -> {
            GalleryGuards g = loaded(TWELVE);
            g.deleteVertex(0);
            due("without vertex 0", Probe.stateOf(g), "1,0 2,0 4,0 4,1 4,3 4,4 2,4 0,4 0,3 0,2 0,1 /24///1");
            g.deleteVertex(5);
            due("without vertex 5", Probe.stateOf(g), "1,0 2,0 4,0 4,1 4,3 2,4 0,4 0,3 0,2 0,1 /22///2");
        });
        says(IS_A_CHANGE, () -> {
            isChange(() -> loaded(GUARDED), g -> g.deleteVertex(2));
            isChange(() -> loaded(TWELVE), g -> g.deleteVertex(11));
        });
        says(VERTEX, () -> {
            for (int v = 0; v < 4; v++) {
                GalleryGuards g = loaded(Probe.SQUARE);
                int next = v == 3 ? 0 : v + 1;
                String place = g.vertexX(next) + ", " + g.vertexY(next);
                due("without " + v, g.deleteVertex(v), 6);
                int moved = v == 3 ? 0 : v;
                due("the next one", g.vertexX(moved) + ", " + g.vertexY(moved), place);
            }
        });
        says(AFTERWARDS, () -> {
            due("as many", loaded(TWELVE).deleteVertex(1), 25);
            due("fewer", loaded(FULL).deleteVertex(0), 36);
            due("more", loaded("polygon 0 0 7 0 7 7 4 7 3 6 2 7 0 7").deleteVertex(4), 64);
        });
        says(NO_POLYGON, () -> noPolygon(g -> g.deleteVertex(0), g -> g.deleteVertex(-1), g -> g.deleteVertex(12)));
        says(NO_VERTEX, () -> {
            GalleryGuards g = loaded(Probe.SQUARE);
            int[] others = {-1, 4, 11, 12, Integer.MIN_VALUE, Integer.MAX_VALUE};
            for (int vertex : others) {
                leavesAll(g, INDEX, () -> g.deleteVertex(vertex));
            }
            GalleryGuards three = loaded(TRIANGLE);
            leavesAll(three, INDEX, () -> three.deleteVertex(3));
        });
        says("Throws `IllegalArgumentException` if the change of the polygon is not possible (section 6)", () -> {
            GalleryGuards three = loaded(TRIANGLE);
            leavesAll(three, ARGUMENT, () -> three.deleteVertex(0));
            leavesAll(three, ARGUMENT, () -> three.deleteVertex(2));
            GalleryGuards ell = loaded(Probe.ELL);
            leavesAll(ell, ARGUMENT, () -> ell.deleteVertex(0));
            GalleryGuards flat = loaded("polygon 0 0 1 0 2 0 2 2");
            leavesAll(flat, ARGUMENT, () -> flat.deleteVertex(3));
            GalleryGuards large = loaded("polygon 0 0 12 0 12 4 7 4 6 3 5 4 0 4");
            leavesAll(large, ARGUMENT, () -> large.deleteVertex(4));
            GalleryGuards guarded = loaded(Probe.SQUARE + ";guard 2 2");
            leavesAll(guarded, ARGUMENT, () -> guarded.deleteVertex(2));
            GalleryGuards rich = loaded(Probe.SQUARE + ";treasure 0 1 5");
            leavesAll(rich, ARGUMENT, () -> rich.deleteVertex(0));
        });
    }
}

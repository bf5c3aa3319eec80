/**
 * Promises 50 to 58: addGuard, removeGuard, moveGuard, setRange, moveVertex, insertVertex, deleteVertex, undo,
 * undoable.
 */
public final class ChangesTest {
    private static final int[] ODD = {-1, Integer.MIN_VALUE, Integer.MAX_VALUE, 1000};

    private static void withoutPolygon() {
        GalleryGuards g = new GalleryGuards();
        Probe.fails("addGuard(-1, -1)", Probe.STATE, () -> g.addGuard(-1, -1));
        Probe.fails("removeGuard(0)", Probe.STATE, () -> g.removeGuard(0));
        Probe.fails("moveGuard(0, 0)", Probe.STATE, () -> g.moveGuard(0, 0));
        Probe.fails("setRange(0, 100)", Probe.STATE, () -> g.setRange(0, 100));
        Probe.fails("moveVertex(0, 16, 0)", Probe.STATE, () -> g.moveVertex(0, 16, 0));
        Probe.fails("insertVertex(-1, 16, 0)", Probe.STATE, () -> g.insertVertex(-1, 16, 0));
        Probe.fails("deleteVertex(0)", Probe.STATE, () -> g.deleteVertex(0));
        Probe.fails("undo()", Probe.STATE, () -> g.undo());
        Probe.due("undoable()", g.undoable(), 0);
    }

    private static void unchanged(String what, GalleryGuards g, Class<?> want, Probe.Call call) {
        String before = Probe.stateOf(g);
        Probe.fails(what, want, call);
        Probe.due("the state after " + what, Probe.stateOf(g), before);
    }

    private static void addGuard() {
        GalleryGuards g = Probe.loaded(Probe.SQUARE);
        for (int i = 0; i < 6; i++) {
            Probe.due("addGuard", g.addGuard(i, i == 5 ? 99 : i), i);
            Probe.due("guards()", g.guards(), i + 1);
            Probe.due("guardAt", g.guardAt(i), i);
            Probe.due("guardRange", g.guardRange(i), i == 5 ? 99 : i);
            Probe.due("undoable()", g.undoable(), i + 1);
        }
        unchanged("a seventh guard", g, Probe.STATE, () -> g.addGuard(0, 0));
        unchanged("a seventh guard at no point", g, Probe.INDEX, () -> g.addGuard(9, 0));
        unchanged("a seventh guard with a wrong range", g, Probe.ARGUMENT, () -> g.addGuard(0, 100));
        GalleryGuards h = Probe.loaded(Probe.SQUARE);
        unchanged("addGuard(9, 0)", h, Probe.INDEX, () -> h.addGuard(9, 0));
        unchanged("addGuard(9, 100)", h, Probe.INDEX, () -> h.addGuard(9, 100));
        unchanged("addGuard(0, 100)", h, Probe.ARGUMENT, () -> h.addGuard(0, 100));
        for (int odd : ODD) {
            unchanged("addGuard(" + odd + ", 0)", h, Probe.INDEX, () -> h.addGuard(odd, 0));
            unchanged("addGuard(0, " + odd + ")", h, Probe.ARGUMENT, () -> h.addGuard(0, odd));
        }
    }

    private static void removeGuard() {
        GalleryGuards g = Probe.loaded(Probe.SQUARE + ";guard 0 0 range 1;guard 1 0 range 2;guard 2 0 range 3");
        unchanged("removeGuard(3)", g, Probe.INDEX, () -> g.removeGuard(3));
        for (int odd : ODD) {
            unchanged("removeGuard(" + odd + ")", g, Probe.INDEX, () -> g.removeGuard(odd));
        }
        Probe.due("removeGuard(1)", g.removeGuard(1), 2);
        Probe.due("the guards left", Probe.stateOf(g), "0,0 2,0 2,2 0,2 /9/0r1 2r3 //1");
        Probe.due("removeGuard(0)", g.removeGuard(0), 1);
        Probe.due("the guard left", Probe.stateOf(g), "0,0 2,0 2,2 0,2 /9/2r3 //2");
        Probe.due("removeGuard(0)", g.removeGuard(0), 0);
        unchanged("removeGuard(0) of none", g, Probe.INDEX, () -> g.removeGuard(0));
        Probe.due("undo", g.undo(), 2);
        Probe.due("undo", g.undo(), 1);
        Probe.due("undo", g.undo(), 0);
        Probe.due("the guards again", Probe.stateOf(g), "0,0 2,0 2,2 0,2 /9/0r1 1r2 2r3 //0");
    }

    private static void moveGuard() {
        GalleryGuards g = Probe.loaded(Probe.SQUARE + ";guard 0 0 range 1;guard 1 0 range 2");
        Probe.due("moveGuard(1, 8)", g.moveGuard(1, 8), 1);
        Probe.due("moveGuard(1, 8) again", g.moveGuard(1, 8), 8);
        Probe.due("the guards", Probe.stateOf(g), "0,0 2,0 2,2 0,2 /9/0r1 8r2 //2");
        Probe.due("watched by the moved one", g.watched(1), Probe.set(2, 4, 5, 6, 7, 8));
        unchanged("moveGuard(2, 0)", g, Probe.INDEX, () -> g.moveGuard(2, 0));
        unchanged("moveGuard(0, 9)", g, Probe.INDEX, () -> g.moveGuard(0, 9));
        for (int odd : ODD) {
            unchanged("moveGuard(" + odd + ", 0)", g, Probe.INDEX, () -> g.moveGuard(odd, 0));
            unchanged("moveGuard(0, " + odd + ")", g, Probe.INDEX, () -> g.moveGuard(0, odd));
        }
        Probe.due("undo", g.undo(), 1);
        Probe.due("undo", g.undo(), 0);
        Probe.due("the guard is back", g.guardAt(1), 1);
        Probe.due("moveGuard(0, 7)", g.moveGuard(0, 7), 0);
        Probe.due("setRange(0, 4)", g.setRange(0, 4), 1);
        Probe.due("the guards", Probe.stateOf(g), "0,0 2,0 2,2 0,2 /9/7r4 1r2 //2");
    }

    private static void setRange() {
        GalleryGuards g = Probe.loaded(Probe.SQUARE + ";guard 0 0;guard 1 1 range 7");
        Probe.due("setRange(1, 0)", g.setRange(1, 0), 7);
        Probe.due("watched in the range 0", g.watched(1), 1 << 4);
        Probe.due("setRange(1, 99)", g.setRange(1, 99), 0);
        Probe.due("setRange(1, 99) again", g.setRange(1, 99), 99);
        Probe.due("the other's range", g.guardRange(0), 99);
        Probe.due("undoable()", g.undoable(), 3);
        unchanged("setRange(2, 0)", g, Probe.INDEX, () -> g.setRange(2, 0));
        unchanged("setRange(2, 100)", g, Probe.INDEX, () -> g.setRange(2, 100));
        unchanged("setRange(0, 100)", g, Probe.ARGUMENT, () -> g.setRange(0, 100));
        for (int odd : ODD) {
            unchanged("setRange(" + odd + ", 0)", g, Probe.INDEX, () -> g.setRange(odd, 0));
            unchanged("setRange(0, " + odd + ")", g, Probe.ARGUMENT, () -> g.setRange(0, odd));
        }
    }

    private static void moveVertex() {
        GalleryGuards g = Probe.loaded(Probe.SQUARE + ";guard 0 2 range 1;treasure 2 1 5");
        Probe.due("moveVertex(2, 3, 3)", g.moveVertex(2, 3, 3), 10);
        Probe.due("moved", Probe.stateOf(g), "0,0 2,0 3,3 0,2 /10/6r1 /5 /1");
        Probe.due("the area", g.doubleArea(), 12);
        Probe.due("moveVertex to where it is", g.moveVertex(2, 3, 3), 10);
        Probe.due("undoable()", g.undoable(), 2);
        unchanged("moveVertex off the guard", g, Probe.ARGUMENT, () -> g.moveVertex(3, 1, 2));
        unchanged("moveVertex off the treasure", g, Probe.ARGUMENT, () -> g.moveVertex(2, 1, 1));
        unchanged("moveVertex onto another", g, Probe.ARGUMENT, () -> g.moveVertex(0, 2, 0));
        unchanged("moveVertex across", g, Probe.ARGUMENT, () -> g.moveVertex(0, 15, 15));
        unchanged("moveVertex(4, 0, 0)", g, Probe.INDEX, () -> g.moveVertex(4, 0, 0));
        unchanged("moveVertex(4, 16, 0)", g, Probe.INDEX, () -> g.moveVertex(4, 16, 0));
        unchanged("moveVertex(2, 16, 3)", g, Probe.ARGUMENT, () -> g.moveVertex(2, 16, 3));
        unchanged("moveVertex(2, 3, 16)", g, Probe.ARGUMENT, () -> g.moveVertex(2, 3, 16));
        for (int odd : ODD) {
            unchanged("moveVertex(" + odd + ", 0, 0)", g, Probe.INDEX, () -> g.moveVertex(odd, 0, 0));
            unchanged("moveVertex(2, " + odd + ", 3)", g, Probe.ARGUMENT, () -> g.moveVertex(2, odd, 3));
            unchanged("moveVertex(2, 3, " + odd + ")", g, Probe.ARGUMENT, () -> g.moveVertex(2, 3, odd));
        }
        // points are numbered anew, guards and treasures keep their places
        Probe.due("moveVertex(0, 0, 1)", g.moveVertex(0, 0, 1), 8);
        Probe.due("renumbered", Probe.stateOf(g), "0,1 2,0 3,3 0,2 /8/4r1 /3 /3");
        Probe.due("undo", g.undo(), 2);
        Probe.due("undo", g.undo(), 1);
        Probe.due("undo", g.undo(), 0);
        Probe.due("as at first", Probe.stateOf(g), "0,0 2,0 2,2 0,2 /9/6r1 /5 /0");
        // 64 points and no more
        GalleryGuards full = Probe.loaded("polygon 0 0 7 0 7 7 0 7");
        unchanged("more than 64 points", full, Probe.ARGUMENT, () -> full.moveVertex(2, 8, 8));
        // only the bounds speak against these
        GalleryGuards low = Probe.loaded(Probe.SQUARE);
        GalleryGuards high = Probe.loaded("polygon 13 13 15 13 15 15 13 15");
        unchanged("x below 0", low, Probe.ARGUMENT, () -> low.moveVertex(0, -1, 0));
        unchanged("y below 0", low, Probe.ARGUMENT, () -> low.moveVertex(0, 0, -1));
        unchanged("x above 15", high, Probe.ARGUMENT, () -> high.moveVertex(2, 16, 15));
        unchanged("y above 15", high, Probe.ARGUMENT, () -> high.moveVertex(2, 15, 16));
        unchanged("a vertex in at x below 0", low, Probe.ARGUMENT, () -> low.insertVertex(3, -1, 1));
        unchanged("a vertex in at y below 0", low, Probe.ARGUMENT, () -> low.insertVertex(0, 1, -1));
        unchanged("a vertex in at x above 15", high, Probe.ARGUMENT, () -> high.insertVertex(1, 16, 14));
        unchanged("a vertex in at y above 15", high, Probe.ARGUMENT, () -> high.insertVertex(2, 14, 16));
        GalleryGuards line = Probe.loaded("polygon 0 0 2 0 0 2");
        unchanged("a line", line, Probe.ARGUMENT, () -> line.moveVertex(2, 1, 0));
        unchanged("a longer line", line, Probe.ARGUMENT, () -> line.moveVertex(2, 5, 0));
    }

    private static void insertVertex() {
        GalleryGuards g = Probe.loaded(Probe.SQUARE);
        Probe.due("insertVertex(0, 1, 0)", g.insertVertex(0, 1, 0), 9);
        Probe.due("a flat vertex", Probe.stateOf(g), "0,0 1,0 2,0 2,2 0,2 /9///1");
        Probe.due("insertVertex(4, 0, 1)", g.insertVertex(4, 0, 1), 9);
        Probe.due("behind the last one", Probe.stateOf(g), "0,0 1,0 2,0 2,2 0,2 0,1 /9///2");
        Probe.due("insertVertex(2, 4, 1)", g.insertVertex(2, 4, 1), 11);
        Probe.due("outwards", Probe.stateOf(g), "0,0 1,0 2,0 4,1 2,2 0,2 0,1 /11///3");
        unchanged("insertVertex on a vertex", g, Probe.ARGUMENT, () -> g.insertVertex(0, 1, 0));
        unchanged("insertVertex on another edge", g, Probe.ARGUMENT, () -> g.insertVertex(0, 1, 2));
        unchanged("insertVertex across", g, Probe.ARGUMENT, () -> g.insertVertex(0, 1, 5));
        unchanged("insertVertex(7, 0, 0)", g, Probe.INDEX, () -> g.insertVertex(7, 0, 0));
        unchanged("insertVertex(7, 99, 0)", g, Probe.INDEX, () -> g.insertVertex(7, 99, 0));
        unchanged("insertVertex(0, 16, 0)", g, Probe.ARGUMENT, () -> g.insertVertex(0, 16, 0));
        unchanged("insertVertex(0, 0, 16)", g, Probe.ARGUMENT, () -> g.insertVertex(0, 0, 16));
        for (int odd : ODD) {
            unchanged("insertVertex(" + odd + ", 0, 0)", g, Probe.INDEX, () -> g.insertVertex(odd, 0, 0));
            unchanged("insertVertex(0, " + odd + ", 0)", g, Probe.ARGUMENT, () -> g.insertVertex(0, odd, 0));
            unchanged("insertVertex(0, 0, " + odd + ")", g, Probe.ARGUMENT, () -> g.insertVertex(0, 0, odd));
        }
        Probe.due("undo", g.undo(), 2);
        Probe.due("the vertices", Probe.stateOf(g), "0,0 1,0 2,0 2,2 0,2 0,1 /9///2");
        GalleryGuards twelve = Probe.loaded("polygon 0 0 1 0 2 0 4 0 4 1 4 3 4 4 2 4 0 4 0 3 0 2 0 1");
        unchanged("a 13th vertex", twelve, Probe.ARGUMENT, () -> twelve.insertVertex(2, 3, 0));
        unchanged("a 13th vertex behind no vertex", twelve, Probe.INDEX, () -> twelve.insertVertex(12, 3, 0));
        twelve.deleteVertex(1);
        Probe.due("a 12th vertex", twelve.insertVertex(1, 3, 0), 25);
        GalleryGuards full = Probe.loaded("polygon 0 0 7 0 7 7 0 7");
        unchanged("more than 64 points", full, Probe.ARGUMENT, () -> full.insertVertex(0, 3, 15));
        Probe.due("a notch", full.insertVertex(2, 3, 1), 42);
        GalleryGuards held = Probe.loaded("polygon 0 0 4 0 4 4 0 4;treasure 2 4 1");
        unchanged("a notch off the treasure", held, Probe.ARGUMENT, () -> held.insertVertex(2, 2, 2));
    }

    private static void deleteVertex() {
        GalleryGuards g = Probe.loaded(Probe.SQUARE + ";guard 1 1 range 1;treasure 2 1 5");
        unchanged("deleteVertex off the treasure", g, Probe.ARGUMENT, () -> g.deleteVertex(1));
        Probe.due("deleteVertex(3)", g.deleteVertex(3), 6);
        Probe.due("a triangle", Probe.stateOf(g), "0,0 2,0 2,2 /6/3r1 /4 /1");
        unchanged("deleteVertex of a triangle", g, Probe.ARGUMENT, () -> g.deleteVertex(0));
        unchanged("deleteVertex(3)", g, Probe.INDEX, () -> g.deleteVertex(3));
        for (int odd : ODD) {
            unchanged("deleteVertex(" + odd + ")", g, Probe.INDEX, () -> g.deleteVertex(odd));
        }
        Probe.due("undo", g.undo(), 0);
        Probe.due("as at first", Probe.stateOf(g), "0,0 2,0 2,2 0,2 /9/4r1 /5 /0");
        GalleryGuards three = Probe.loaded("polygon 0 0 2 0 0 2");
        for (int v = 0; v < 3; v++) {
            int vertex = v;
            unchanged("one of three vertices", three, Probe.ARGUMENT, () -> three.deleteVertex(vertex));
        }
        GalleryGuards square = Probe.loaded(Probe.SQUARE);
        Probe.due("deleteVertex(0)", square.deleteVertex(0), 6);
        Probe.due("the first one is gone", Probe.stateOf(square), "2,0 2,2 0,2 /6///1");
        GalleryGuards ell = Probe.loaded(Probe.ELL);
        unchanged("edges that cross", ell, Probe.ARGUMENT, () -> ell.deleteVertex(0));
        GalleryGuards flat = Probe.loaded("polygon 0 0 1 0 2 0 2 2");
        unchanged("the rest on a line", flat, Probe.ARGUMENT, () -> flat.deleteVertex(3));
        GalleryGuards thin = Probe.loaded("polygon 0 0 15 0 15 15 14 1");
        unchanged("more than 64 points", thin, Probe.ARGUMENT, () -> thin.deleteVertex(3));
    }

    private static void undo() {
        GalleryGuards g = Probe.loaded(Probe.SQUARE + ";guard 0 0 range 0");
        for (int i = 1; i <= 11; i++) {
            g.setRange(0, i);
            Probe.due("undoable()", g.undoable(), Math.min(i, 8));
        }
        for (int i = 10; i >= 3; i--) {
            Probe.due("undo", g.undo(), i - 3);
            Probe.due("the range", g.guardRange(0), i);
        }
        Probe.fails("a ninth undo", Probe.STATE, () -> g.undo());
        Probe.due("the range stays", g.guardRange(0), 3);
        Probe.due("undoable()", g.undoable(), 0);
        // a change after undo takes the place of what was undone
        g.setRange(0, 20);
        g.moveGuard(0, 8);
        Probe.due("undo", g.undo(), 1);
        g.addGuard(4, 4);
        Probe.due("undoable()", g.undoable(), 2);
        Probe.due("undo", g.undo(), 1);
        Probe.due("the guards", Probe.stateOf(g), "0,0 2,0 2,2 0,2 /9/0r20 //1");
        Probe.due("undo", g.undo(), 0);
        Probe.due("the guards", Probe.stateOf(g), "0,0 2,0 2,2 0,2 /9/0r3 //0");
    }

    /** All kinds of changes in one row, and back. */
    private static void undoAll() {
        GalleryGuards g = Probe.loaded(Probe.ELL + ";guard 0 0 range 2;treasure 4 0 5");
        String[] before = new String[7];
        long[] seen = new long[7];
        for (int i = 0; i < 7; i++) {
            before[i] = Probe.stateOf(g);
            seen[i] = g.visible(g.points() - 1) ^ g.boundary();
            change(g, i);
            Probe.due("a change was made", Probe.stateOf(g).equals(before[i]), false);
        }
        for (int i = 6; i >= 0; i--) {
            Probe.due("undo", g.undo(), i);
            Probe.due("the state before change " + i, Probe.stateOf(g), before[i]);
            Probe.due("what is seen", g.visible(g.points() - 1) ^ g.boundary(), seen[i]);
        }
    }

    private static void change(GalleryGuards g, int i) {
        switch (i) {
            case 0 -> g.addGuard(3, 5);
            case 1 -> g.moveVertex(4, 2, 4);
            case 2 -> g.moveGuard(0, 7);
            case 3 -> g.insertVertex(0, 2, 0);
            case 4 -> g.setRange(1, 6);
            case 5 -> g.deleteVertex(6);
            default -> g.removeGuard(0);
        }
    }

    public static void main(String[] args) {
        withoutPolygon();
        addGuard();
        removeGuard();
        moveGuard();
        setRange();
        moveVertex();
        insertVertex();
        deleteVertex();
        undo();
        undoAll();
        Probe.end("ChangesTest");
    }
}

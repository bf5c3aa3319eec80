/** Promises 1 to 6: a new object, append, load, parseError, errorPosition, buffered; the text format. */
public final class InputTest {
    private static void newObject() {
        GalleryGuards g = new GalleryGuards();
        Probe.due("NONE", GalleryGuards.NONE, -1);
        Probe.due("new: buffered()", g.buffered(), 0);
        Probe.due("new: vertices()", g.vertices(), 0);
        Probe.due("new: points()", g.points(), 0);
        Probe.due("new: guards()", g.guards(), 0);
        Probe.due("new: treasures()", g.treasures(), 0);
        Probe.due("new: undoable()", g.undoable(), 0);
        Probe.due("new: parseError()", g.parseError(), 0);
        Probe.due("new: errorPosition()", g.errorPosition(), -1);
        Probe.fails("new: drawnByte(0)", Probe.INDEX, () -> g.drawnByte(0));
        Probe.fails("new: undo()", Probe.STATE, () -> g.undo());
        Probe.fails("new: restore(0)", Probe.STATE, () -> g.restore(0));
    }

    private static void append() {
        GalleryGuards g = new GalleryGuards();
        for (int i = 1; i <= 30; i++) {
            Probe.due("append " + i, g.append(0x20202020, 0x20202020, 0x20202020, 0x20202020, 0x20202020), 20 * i);
            Probe.due("buffered()", g.buffered(), 20 * i);
        }
        Probe.due("append 31", g.append(0, 0, 0, 0, 0), GalleryGuards.NONE);
        Probe.due("buffered() when full", g.buffered(), 600);
        Probe.fails("load(601)", Probe.INDEX, () -> g.load(601));
        Probe.fails("600 blanks", Probe.ARGUMENT, () -> g.load(600));
        Probe.due("600 blanks: parseError()", g.parseError(), 1);
        Probe.due("600 blanks: errorPosition()", g.errorPosition(), 600);
        Probe.due("buffered() after load", g.buffered(), 0);
        Probe.due("append after load", g.append(0x706f6c79, 0x676f6e20, 0x30203020, 0x31203020, 0x30203120), 20);
        Probe.due("load of bytes in order", g.load(20), 3);
        Probe.due("append of bytes above 127", g.append(0xff, 0x80000000, -1, Integer.MIN_VALUE, 0x7fffffff), 20);
        Probe.fails("bytes above 127", Probe.ARGUMENT, () -> g.load(20));
        Probe.due("bytes above 127: errorPosition()", g.errorPosition(), 0);
    }

    private static void loadOutOfBounds() {
        GalleryGuards g = new GalleryGuards();
        Probe.refusedBy(g, "polygon 0 0 1 0 16", 2, 16);
        Probe.append(g, Probe.SQUARE);
        int[] odd = {-1, 41, 600, Integer.MIN_VALUE, Integer.MAX_VALUE};
        for (int n : odd) {
            Probe.fails("load(" + n + ") of 40", Probe.INDEX, () -> g.load(n));
            Probe.due("buffered() stays", g.buffered(), 40);
            Probe.due("parseError() stays", g.parseError(), 2);
            Probe.due("errorPosition() stays", g.errorPosition(), 16);
        }
        Probe.due("load(40), blanks behind", g.load(40), 9);
        Probe.due("parseError() after success", g.parseError(), 0);
        Probe.due("errorPosition() after success", g.errorPosition(), -1);
        Probe.fails("load(0)", Probe.ARGUMENT, () -> g.load(0));
        Probe.due("load(0): parseError()", g.parseError(), 1);
        Probe.due("load(0): errorPosition()", g.errorPosition(), 0);
    }

    private static void loadReplaces() {
        GalleryGuards g = Probe.loaded(Probe.ELL + "; guard 0 0 range 2; treasure 4 0 5");
        g.save(0);
        g.save(1);
        g.setRange(0, 5);
        String before = Probe.stateOf(g);
        Probe.refusedBy(g, "polygon 0 0 1 0 1 1;guard 2 2", 4, 28);
        Probe.due("the state after a failed load", Probe.stateOf(g), before);
        Probe.due("undo after a failed load", g.undo(), 0);
        Probe.due("the range after undo", g.guardRange(0), 2);
        g.setRange(0, 5);
        Probe.append(g, Probe.SQUARE);
        Probe.due("load", g.load(Probe.SQUARE.length()), 9);
        Probe.due("the state after load", Probe.stateOf(g), "0,0 2,0 2,2 0,2 /9///0");
        Probe.fails("undo after load", Probe.STATE, () -> g.undo());
        Probe.fails("restore(0) after load", Probe.STATE, () -> g.restore(0));
        Probe.fails("restore(1) after load", Probe.STATE, () -> g.restore(1));
    }

    private static void goodTexts() {
        Probe.accepted(Probe.SQUARE, 9);
        Probe.accepted("   polygon0 0 2 0 2 2 0 2   ", 9);
        Probe.accepted("polygon 0000 0 0002 00 2 2 0 002", 9);
        Probe.accepted("polygon 0 0 2 0 2 2 0 2;guard1 1range0;treasure1 1 1;guard 1 1;treasure 2 2 999", 9);
        Probe.accepted("polygon 15 15 15 14 14 15", 3);
        Probe.accepted("polygon 0 0 7 0 7 7 0 7", 64);
        Probe.accepted("polygon 0 0 0 7 7 7 7 0", 64);
        Probe.accepted("polygon 0 0 1 0 2 0 4 0 4 1 4 3 4 4 2 4 0 4 0 3 0 2 0 1", 25);
        StringBuilder full = new StringBuilder(Probe.SQUARE);
        for (int i = 0; i < 6; i++) {
            full.append(";guard 1 1;treasure 1 1 5");
        }
        Probe.accepted(full.toString(), 9);
        GalleryGuards g = Probe.loaded(full.toString());
        Probe.due("six guards", g.guards(), 6);
        Probe.due("six treasures", g.treasures(), 6);
        GalleryGuards h = Probe.loaded(Probe.SQUARE + ";guard 1 1;guard 0 1 range 99;guard 2 1 range 0");
        Probe.due("the range without a range", h.guardRange(0), 99);
        Probe.due("range 99", h.guardRange(1), 99);
        Probe.due("range 0", h.guardRange(2), 0);
    }

    private static void wrongTokens() {
        Probe.refused("", 1, 0);
        Probe.refused("   ", 1, 3);
        Probe.refused("polygo 0 0 2 0 2 2", 1, 0);
        Probe.refused("polygons 0 0 2 0 2 2", 1, 0);
        Probe.refused(" Polygon 0 0 2 0 2 2", 1, 1);
        Probe.refused("polygon\t0 0 2 0 2 2", 1, 7);
        Probe.refused("polygon 0 0 2 0 2 2\n", 1, 19);
        Probe.refused("polygon 0 0 2 0 2 2\u00a0", 1, 19);
        Probe.refused("polygon 0 0 2 0 2 -2", 1, 18);
        Probe.refused("polygon 0 0 2 0 2", 1, 17);
        Probe.refused("polygon 0 0 2 0 2  ", 1, 19);
        Probe.refused("polygon 0 0 2 0;guard 0 0", 1, 15);
        Probe.refused("polygon 0 0 2 0 2 2 0;guard 0 0", 1, 21);
        Probe.refused("polygon 0 0 2 0 2 2 guard 0 0", 1, 20);
        Probe.refused("polygon 00000 0 2 0 2 2", 1, 8);
        Probe.refused("polygon 12345 0 2 0 2 2", 1, 8);
        Probe.refused("polygon 0 0 2 0 2 2;", 1, 20);
        Probe.refused("polygon 0 0 2 0 2 2; ", 1, 21);
        Probe.refused("polygon 0 0 2 0 2 2;;guard 0 0", 1, 20);
        Probe.refused("polygon 0 0 2 0 2 2;guards 0 0", 1, 20);
        Probe.refused("polygon 0 0 2 0 2 2;guarding 0 0", 1, 20);
        Probe.refused("polygon 0 0 2 0 2 2;treasures 0 0 1", 1, 20);
        Probe.refused("polygon 0 0 2 0 2 2;polygon 0 0 1 0 1 1", 1, 20);
        Probe.refused("polygon 0 0 2 0 2 2;guard", 1, 25);
        Probe.refused("polygon 0 0 2 0 2 2;guard 0", 1, 27);
        Probe.refused("polygon 0 0 2 0 2 2;guard 0 0 5", 1, 30);
        Probe.refused("polygon 0 0 2 0 2 2;guard 0 0 range", 1, 35);
        Probe.refused("polygon 0 0 2 0 2 2;guard 0 0 range 5 6", 1, 38);
        Probe.refused("polygon 0 0 2 0 2 2;guard 0 0 range range", 1, 36);
        Probe.refused("polygon 0 0 2 0 2 2;guard 0 0 rangerover", 1, 30);
        Probe.refused("polygon 0 0 2 0 2 2;treasure 0 0", 1, 32);
        Probe.refused("polygon 0 0 2 0 2 2;treasure 0 0;guard 0 0", 1, 32);
        Probe.refused("polygon 0 0 2 0 2 2;treasure 0 0 range 5", 1, 33);
        Probe.refused("polygon 0 0 2 0 2 2;treasure 0 0 00001", 1, 33);
        Probe.refused("polygon 0 0 2 0 2 2;treasure 0 0 1 1", 1, 35);
    }

    private static void outOfBounds() {
        Probe.refused("polygon 16 0 2 0 2 2", 2, 8);
        Probe.refused("polygon 0 16 2 0 2 2", 2, 10);
        Probe.refused("polygon 0 0 2 0 2 9999", 2, 18);
        Probe.refused("polygon 0 0 2 0 2 2;guard 16 0", 2, 26);
        Probe.refused("polygon 0 0 2 0 2 2;guard 0 16", 2, 28);
        Probe.refused("polygon 0 0 2 0 2 2;guard 0 0 range 100", 2, 36);
        Probe.refused("polygon 0 0 2 0 2 2;treasure 0 0 0", 2, 33);
        Probe.refused("polygon 0 0 2 0 2 2;treasure 0 0 0000", 2, 33);
        Probe.refused("polygon 0 0 2 0 2 2;treasure 0 0 1000", 2, 33);
        Probe.refused("polygon 0 0 2 0 2 2;treasure 99 0 5", 2, 29);
    }

    /** The same polygon from each of its vertices on, in both directions. */
    private static void badEveryWay(String numbers) {
        java.util.List<int[]> corners = Shapes.corners(numbers);
        for (int turn = 0; turn < 2; turn++) {
            for (int i = 0; i < corners.size(); i++) {
                String text = "polygon " + Shapes.numbers(corners);
                Probe.refused(text, 3, text.length());
                java.util.Collections.rotate(corners, 1);
            }
            java.util.Collections.reverse(corners);
        }
    }

    private static void badPolygons() {
        badEveryWay("5 5 5 5 5 5");
        badEveryWay("5 5 5 5 5 5 5 5");
        badEveryWay("0 0 0 0 1 1");
        badEveryWay("0 0 1 0 2 0");
        badEveryWay("0 0 3 0 1 0 1 3");
        badEveryWay("0 0 2 2 2 0 0 2");
        badEveryWay("0 0 4 0 4 4 2 0 0 4");
        badEveryWay("0 0 2 0 2 2 0 2 0 0");
        badEveryWay("0 0 4 0 4 2 3 2 3 0 1 0 1 2 0 2");
        badEveryWay("2 2 4 4 4 2 2 2 0 0 0 2");
        badEveryWay("0 0 6 0 6 6 3 0 3 6");
        badEveryWay("0 0 12 0 12 4 0 4");
        // the same place twice, all on one line, a fold, a touch, a crossing, an overlap
        Probe.refused("polygon 0 0 0 0 1 1", 3, 19);
        Probe.refused("polygon 0 0 1 0 2 0", 3, 19);
        Probe.refused("polygon 0 0 3 0 1 0 1 3", 3, 23);
        Probe.refused("polygon 0 0 4 0 2 0 4 4 0 4", 3, 27);
        Probe.refused("polygon 0 0 2 2 2 0 0 2", 3, 23);
        Probe.refused("polygon 0 0 4 0 4 4 2 0 0 4", 3, 27);
        Probe.refused("polygon 0 0 2 0 2 2 0 2 0 0", 3, 27);
        Probe.refused("polygon 0 0 4 0 4 2 3 2 3 0 1 0 1 2 0 2", 3, 39);
        Probe.refused("polygon 2 2 4 4 4 2 2 2 0 0 0 2", 3, 31);
        Probe.refused("polygon 0 0 2 2 2 0 0 2  ;guard 9 9", 3, 25);
        Probe.refused("polygon 0 0 2 2 2 0 0 2;", 3, 23);
        // 65 points
        Probe.refused("polygon 0 0 12 0 12 4 0 4", 3, 25);
        Probe.refused("polygon 0 0 15 0 15 15 0 15;guard 0 0", 3, 27);
        // another error behind the last Y comes first
        Probe.refused("polygon 0 0 2 2 2 0 0 2 guard", 1, 24);
        Probe.refused("polygon 0 0 2 2 2 0 0 2 16", 2, 24);
    }

    private static void noPoint() {
        Probe.refused("polygon 0 0 2 0 2 2;guard 0 1", 4, 28);
        Probe.refused("polygon 0 0 2 0 2 2;guard 1 1;guard 15 15 range 3", 4, 39);
        Probe.refused("polygon 0 0 2 0 2 2;treasure 1 2 5", 4, 31);
        Probe.refused("polygon 0 0 2 0 2 2;treasure 1 2", 4, 31);
        Probe.refused(Probe.ELL + ";guard 2 2", 4, 40);
        // the points are those of this text, not of an earlier one
        GalleryGuards g = Probe.loaded("polygon 0 0 7 0 7 7 0 7");
        Probe.refusedBy(g, Probe.SQUARE + ";guard 3 3", 4, 32);
    }

    private static void tooMany() {
        String twelve = "polygon 0 0 1 0 2 0 4 0 4 1 4 3 4 4 2 4 0 4 0 3 0 2 0 1";
        Probe.refused(twelve + " 0 0", 5, 56);
        Probe.refused(twelve + " 15", 5, 56);
        Probe.refused(twelve + " 16", 2, 56);
        Probe.refused(twelve + " 00000", 1, 56);
        Probe.refused(twelve + " x", 1, 56);
        String guards = Probe.SQUARE + ";guard 1 1".repeat(6);
        Probe.refused(guards + ";guard 1 1", 5, 84);
        Probe.refused(guards + "; guard", 5, 85);
        Probe.refused(guards + ";guardian", 1, 84);
        Probe.accepted(guards + ";treasure 1 1 1", 9);
        String treasures = Probe.SQUARE + ";treasure 1 1 1".repeat(6);
        Probe.refused(treasures + ";treasure 1 1 1", 5, 114);
        Probe.refused(treasures + ";guard 1 1;treasure", 5, 124);
        Probe.refused(guards + ";treasure 1 1 1".repeat(6) + ";treasure 1 1 1", 5, 174);
        Probe.refused(guards + ";treasure 1 1 1".repeat(6) + ";;", 1, 174);
        Probe.refused(guards + ";treasure 1 1 1".repeat(6) + " ;", 1, 175);
    }

    public static void main(String[] args) {
        newObject();
        append();
        loadOutOfBounds();
        loadReplaces();
        goodTexts();
        wrongTokens();
        outOfBounds();
        badPolygons();
        noPoint();
        tooMany();
        Probe.end("InputTest");
    }
}

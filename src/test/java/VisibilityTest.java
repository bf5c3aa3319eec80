/** Promises 17 to 23: sees, visible, kernel, linkDistance, diameter, farthest, seenFromEdge. */
public final class VisibilityTest {
    private static void withoutPolygon() {
        GalleryGuards g = new GalleryGuards();
        Probe.fails("sees(0, 0)", Probe.STATE, () -> g.sees(0, 0));
        Probe.fails("sees(-1, 99)", Probe.STATE, () -> g.sees(-1, 99));
        Probe.fails("visible(0)", Probe.STATE, () -> g.visible(0));
        Probe.fails("kernel()", Probe.STATE, () -> g.kernel());
        Probe.fails("linkDistance(0, 0)", Probe.STATE, () -> g.linkDistance(0, 0));
        Probe.fails("diameter()", Probe.STATE, () -> g.diameter());
        Probe.fails("farthest(0)", Probe.STATE, () -> g.farthest(0));
        Probe.fails("seenFromEdge(0)", Probe.STATE, () -> g.seenFromEdge(0));
    }

    private static void wrongNumbers() {
        GalleryGuards g = Probe.loaded(Probe.ELL);
        int[] odd = {-1, 16, 63, 64, Integer.MIN_VALUE, Integer.MAX_VALUE};
        for (int p : odd) {
            Probe.fails("sees(" + p + ", 0)", Probe.INDEX, () -> g.sees(p, 0));
            Probe.fails("sees(0, " + p + ")", Probe.INDEX, () -> g.sees(0, p));
            Probe.fails("visible(" + p + ")", Probe.INDEX, () -> g.visible(p));
            Probe.fails("linkDistance(" + p + ", 0)", Probe.INDEX, () -> g.linkDistance(p, 0));
            Probe.fails("linkDistance(0, " + p + ")", Probe.INDEX, () -> g.linkDistance(0, p));
            Probe.fails("farthest(" + p + ")", Probe.INDEX, () -> g.farthest(p));
            Probe.fails("seenFromEdge(" + p + ")", Probe.INDEX, () -> g.seenFromEdge(p));
        }
        Probe.fails("seenFromEdge(6)", Probe.INDEX, () -> g.seenFromEdge(6));
    }

    private static void see(GalleryGuards g, int ax, int ay, int bx, int by, boolean want) {
        int a = g.pointAt(ax, ay);
        int b = g.pointAt(bx, by);
        String what = "(" + ax + ", " + ay + ") sees (" + bx + ", " + by + ")";
        Probe.due(what, g.sees(a, b), want);
        Probe.due(what + ", turned round", g.sees(b, a), want);
        Probe.due(what + ", in visible", (g.visible(a) >>> b & 1) != 0, want);
    }

    private static void sights() {
        GalleryGuards ell = Probe.loaded(Probe.ELL);
        see(ell, 4, 1, 0, 1, true);
        see(ell, 4, 1, 1, 1, true);
        see(ell, 4, 0, 1, 4, false);
        see(ell, 2, 0, 0, 4, false);
        see(ell, 2, 0, 0, 2, true);
        see(ell, 3, 3 - 3, 0, 3, false);
        see(ell, 3, 0, 3, 0, true);
        Probe.due("visible of the inner corner", ell.visible(0), 65535);
        Probe.due("visible of (4, 1)", ell.visible(9), 1023);

        // a way along an edge, through a vertex, and on through the inside
        GalleryGuards heart = Probe.loaded("polygon 0 0 4 0 4 4 2 2 0 4");
        see(heart, 0, 4, 4, 0, true);
        see(heart, 4, 4, 0, 0, true);
        see(heart, 0, 4, 4, 4, false);
        see(heart, 0, 4, 4, 3, false);
        see(heart, 0, 2, 4, 2, true);
        see(heart, 0, 3, 4, 3, false);

        // the way leaves the polygon and comes back between two points that see their neighbours
        GalleryGuards you = Probe.loaded(Probe.YOU);
        see(you, 0, 1, 3, 1, true);
        see(you, 0, 2, 3, 2, false);
        see(you, 1, 2, 2, 2, false);
        see(you, 1, 3, 2, 3, false);
        see(you, 1, 0, 3, 2, true);
        see(you, 0, 0, 2, 2, false);
        see(you, 0, 2, 2, 0, true);
        see(you, 1, 1, 2, 1, true);

        // a spike from above whose sides cross the way, but whose tip is no lattice point of it
        GalleryGuards spike = Probe.loaded("polygon 0 0 6 0 6 3 4 3 3 1 2 3 0 3");
        see(spike, 0, 2, 6, 2, false);
        see(spike, 0, 1, 6, 1, true);
        see(spike, 2, 2, 4, 1, false);
        see(spike, 0, 2, 6, 0, true);
        see(spike, 2, 3, 4, 3, false);

        // neighbours in the lattice on both sides of a gap without a lattice point in it
        GalleryGuards gap = Probe.loaded("polygon 0 0 3 0 3 4 2 4 2 3 1 2 1 4 0 4");
        see(gap, 1, 3, 2, 3, false);
        see(gap, 1, 2, 2, 3, true);
        see(gap, 1, 4, 2, 4, false);
        see(gap, 0, 3, 2, 3, false);
        see(gap, 0, 1, 3, 4, true);

        GalleryGuards full = Probe.loaded("polygon 0 0 7 0 7 7 0 7");
        Probe.due("visible in a full square", full.visible(63), -1L);
        Probe.due("kernel of a full square", full.kernel(), -1L);
    }

    private static void kernels() {
        Probe.due("square: kernel()", Probe.loaded(Probe.SQUARE).kernel(), 511);
        Probe.due("ell: kernel()", Probe.loaded(Probe.ELL).kernel(), Probe.set(0, 1, 5, 6));
        Probe.due("you: kernel()", Probe.loaded(Probe.YOU).kernel(), 0);
    }

    private static void links() {
        GalleryGuards ell = Probe.loaded(Probe.ELL);
        Probe.due("ell: linkDistance(3, 3)", ell.linkDistance(3, 3), 0);
        Probe.due("ell: linkDistance(0, 15)", ell.linkDistance(0, 15), 1);
        Probe.due("ell: linkDistance(9, 15)", ell.linkDistance(9, 15), 2);
        Probe.due("ell: linkDistance(15, 9)", ell.linkDistance(15, 9), 2);
        Probe.due("ell: diameter()", ell.diameter(), 2);
        Probe.due("ell: farthest(9)", ell.farthest(9), 10);
        Probe.due("ell: farthest(15)", ell.farthest(15), 2);
        Probe.due("ell: farthest(0)", ell.farthest(0), 1);
        Probe.due("ell: farthest(1)", ell.farthest(1), 0);

        GalleryGuards you = Probe.loaded(Probe.YOU);
        Probe.due("you: linkDistance(12, 15)", you.linkDistance(12, 15), 3);
        Probe.due("you: linkDistance(12, 11)", you.linkDistance(12, 11), 2);
        Probe.due("you: linkDistance(9, 10)", you.linkDistance(9, 10), 3);
        Probe.due("you: diameter()", you.diameter(), 3);
        Probe.due("you: farthest(12)", you.farthest(12), 10);
        Probe.due("you: farthest(15)", you.farthest(15), 9);

        GalleryGuards square = Probe.loaded(Probe.SQUARE);
        Probe.due("square: diameter()", square.diameter(), 1);
        Probe.due("square: farthest(0)", square.farthest(0), 1);
        Probe.due("square: farthest(8)", square.farthest(8), 0);

        // a spiral of corridors one unit wide
        GalleryGuards spiral = Probe.loaded("polygon 0 0 9 0 9 7 2 7 2 4 6 4 6 5 3 5 3 6 8 6 8 1 0 1");
        Probe.due("spiral: from end to end", spiral.linkDistance(spiral.pointAt(0, 0), spiral.pointAt(6, 4)), 5);
        Probe.due("spiral: diameter()", spiral.diameter(), 5);
    }

    private static void edges() {
        GalleryGuards ell = Probe.loaded(Probe.ELL);
        Probe.due("ell: seenFromEdge(0)", ell.seenFromEdge(0), 65535);
        Probe.due("ell: seenFromEdge(1)", ell.seenFromEdge(1), 1023);
        Probe.due("ell: seenFromEdge(4)", ell.seenFromEdge(4), Probe.set(0, 1, 5, 6, 10, 11, 12, 13, 14, 15));
        Probe.due("ell: seenFromEdge(5)", ell.seenFromEdge(5), 65535);
        // the last edge leads back to vertex 0; its ends alone see less than its middle
        GalleryGuards tee = Probe.loaded("polygon 4 0 4 1 3 1 3 4 2 4 2 1 0 1 0 0");
        int top = tee.pointAt(2, 4);
        Probe.due("tee: an end of the edge", tee.sees(tee.pointAt(0, 0), top), false);
        Probe.due("tee: the other end", tee.sees(tee.pointAt(4, 0), top), false);
        Probe.due("tee: seenFromEdge(7)", tee.seenFromEdge(7), (1L << tee.points()) - 1);
    }

    public static void main(String[] args) {
        withoutPolygon();
        wrongNumbers();
        sights();
        kernels();
        links();
        edges();
        Probe.end("VisibilityTest");
    }
}

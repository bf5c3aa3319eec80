/** Promises 28 to 34: vertexGuards, edgeGuards, guardNumber, guardPoint, witnessNumber, witness, hiddenNumber. */
public final class FewestTest {
    private static void withoutPolygon() {
        GalleryGuards g = new GalleryGuards();
        Probe.fails("vertexGuards()", Probe.STATE, () -> g.vertexGuards());
        Probe.fails("edgeGuards()", Probe.STATE, () -> g.edgeGuards());
        Probe.fails("guardNumber()", Probe.STATE, () -> g.guardNumber());
        Probe.fails("guardPoint(-1)", Probe.STATE, () -> g.guardPoint(-1));
        Probe.fails("guardPoint(0)", Probe.STATE, () -> g.guardPoint(0));
        Probe.fails("witnessNumber()", Probe.STATE, () -> g.witnessNumber());
        Probe.fails("witness(0)", Probe.STATE, () -> g.witness(0));
        Probe.fails("witness(9)", Probe.STATE, () -> g.witness(9));
        Probe.fails("hiddenNumber()", Probe.STATE, () -> g.hiddenNumber());
    }

    private static void wrongNumbers() {
        GalleryGuards g = Probe.loaded(Probe.YOU);
        int[] odd = {-1, 2, 3, 4, 64, Integer.MIN_VALUE, Integer.MAX_VALUE};
        for (int i : odd) {
            Probe.fails("guardPoint(" + i + ")", Probe.INDEX, () -> g.guardPoint(i));
            Probe.fails("witness(" + i + ")", Probe.INDEX, () -> g.witness(i));
        }
    }

    private static void found(String text, int vertexGuards, int edgeGuards, int[] guards, int[] witnesses, int hidden) {
        GalleryGuards g = Probe.loaded(text);
        Probe.due(text + ": vertexGuards()", g.vertexGuards(), vertexGuards);
        Probe.due(text + ": edgeGuards()", g.edgeGuards(), edgeGuards);
        Probe.due(text + ": guardNumber()", g.guardNumber(), guards.length);
        for (int i = 0; i < guards.length; i++) {
            Probe.due(text + ": guardPoint(" + i + ")", g.guardPoint(i), guards[i]);
        }
        Probe.due(text + ": witnessNumber()", g.witnessNumber(), witnesses.length);
        for (int i = 0; i < witnesses.length; i++) {
            Probe.due(text + ": witness(" + i + ")", g.witness(i), witnesses[i]);
        }
        Probe.due(text + ": hiddenNumber()", g.hiddenNumber(), hidden);
    }

    private static void searches() {
        found(Probe.SQUARE, 1, 1, new int[] {0}, new int[] {0}, 1);
        found("polygon 0 0 7 0 7 7 0 7", 1, 1, new int[] {0}, new int[] {0}, 1);
        found(Probe.ELL, 1, 1, new int[] {0}, new int[] {0}, 2);
        // turned so that the inner corner comes late: the first vertex that sees all is (1, 1), the edge the one to it
        found("polygon 4 0 4 1 1 1 1 4 0 4 0 0", 1 << 2, 1 << 1, new int[] {0}, new int[] {0}, 2);
        // two of its vertices are needed: (0, 0) with (3, 0), (3, 3) or (2, 1); one edge along the bottom is enough
        found(Probe.YOU, 1 << 0 | 1 << 1, 1 << 0, new int[] {0, 2}, new int[] {9, 10}, 2);
        comb();
    }

    /** Each of the four teeth needs a guard of its own. */
    private static void comb() {
        GalleryGuards g = Probe.loaded(Probe.COMB);
        Probe.due("comb: guardNumber()", g.guardNumber(), 4);
        Probe.due("comb: witnessNumber()", g.witnessNumber(), 4);
        long seen = 0;
        for (int i = 0; i < 4; i++) {
            seen |= g.visible(g.guardPoint(i));
            Probe.due("comb: rising guards", i == 0 || g.guardPoint(i) > g.guardPoint(i - 1), true);
            for (int k = 0; k < i; k++) {
                Probe.due("comb: witnesses apart", g.visible(g.witness(i)) & g.visible(g.witness(k)), 0);
            }
        }
        Probe.due("comb: all is seen", seen, (1L << g.points()) - 1);
        Probe.due("comb: as many vertices", Integer.bitCount(g.vertexGuards()), 4);
        Probe.due("comb: one edge", g.edgeGuards(), 1);
        Probe.due("comb: hiddenNumber()", g.hiddenNumber(), 5);
        Probe.fails("comb: guardPoint(4)", Probe.INDEX, () -> g.guardPoint(4));
        Probe.fails("comb: witness(4)", Probe.INDEX, () -> g.witness(4));
    }

    /** What was found for one polygon must not be answered for the next one. */
    private static void newPolygon() {
        GalleryGuards g = Probe.loaded(Probe.YOU);
        Probe.due("before: guardNumber()", g.guardNumber(), 2);
        Probe.due("before: witnessNumber()", g.witnessNumber(), 2);
        Probe.due("before: hiddenNumber()", g.hiddenNumber(), 2);
        Probe.due("before: vertexGuards()", g.vertexGuards(), 3);
        Probe.due("before: visible(12)", g.visible(12), Probe.set(0, 1, 4, 5, 8, 9, 12, 13));
        g.moveVertex(4, 2, 3 - 1);
        g.moveVertex(5, 1, 2);
        g.undo();
        g.undo();
        g.save(0);
        g.deleteVertex(5);
        g.deleteVertex(4);
        Probe.due("after: points()", g.points(), 16);
        Probe.due("after: guardNumber()", g.guardNumber(), 1);
        Probe.due("after: witnessNumber()", g.witnessNumber(), 1);
        Probe.due("after: hiddenNumber()", g.hiddenNumber(), 1);
        Probe.due("after: vertexGuards()", g.vertexGuards(), 1);
        Probe.due("after: edgeGuards()", g.edgeGuards(), 1);
        Probe.due("after: visible(12)", g.visible(12), 65535);
        Probe.due("after: colourGuards()", g.colourGuards(), 1 << 1);
        g.restore(0);
        Probe.due("restored: guardNumber()", g.guardNumber(), 2);
        Probe.due("restored: witness(1)", g.witness(1), 10);
        Probe.due("restored: hiddenNumber()", g.hiddenNumber(), 2);
        Probe.due("restored: vertexGuards()", g.vertexGuards(), 3);
    }

    public static void main(String[] args) {
        withoutPolygon();
        wrongNumbers();
        searches();
        newPolygon();
        Probe.end("FewestTest");
    }
}

/**
 * Promises 35 to 47: guards, guardAt, guardRange, watched, unwatched, watchers, redundantGuards, bestPoint,
 * greedyGuards, treasures, treasureAt, watchedValue, bestValue.
 */
public final class GuardsTest {
    private static final String GUARDED = Probe.ELL + ";guard 0 0 range 2;guard 4 1;treasure 0 4 7;treasure 4 0 5";

    private static void withoutPolygon() {
        GalleryGuards g = new GalleryGuards();
        Probe.due("guards()", g.guards(), 0);
        Probe.due("treasures()", g.treasures(), 0);
        Probe.fails("guardAt(0)", Probe.STATE, () -> g.guardAt(0));
        Probe.fails("guardRange(-1)", Probe.STATE, () -> g.guardRange(-1));
        Probe.fails("watched(0)", Probe.STATE, () -> g.watched(0));
        Probe.fails("unwatched()", Probe.STATE, () -> g.unwatched());
        Probe.fails("watchers(0)", Probe.STATE, () -> g.watchers(0));
        Probe.fails("redundantGuards()", Probe.STATE, () -> g.redundantGuards());
        Probe.fails("bestPoint()", Probe.STATE, () -> g.bestPoint());
        Probe.fails("greedyGuards()", Probe.STATE, () -> g.greedyGuards());
        Probe.fails("treasureAt(0)", Probe.STATE, () -> g.treasureAt(0));
        Probe.fails("watchedValue()", Probe.STATE, () -> g.watchedValue());
        Probe.fails("bestValue()", Probe.STATE, () -> g.bestValue());
    }

    private static void wrongNumbers() {
        GalleryGuards g = Probe.loaded(GUARDED);
        int[] odd = {-1, 2, 5, 6, Integer.MIN_VALUE, Integer.MAX_VALUE};
        for (int i : odd) {
            Probe.fails("guardAt(" + i + ")", Probe.INDEX, () -> g.guardAt(i));
            Probe.fails("guardRange(" + i + ")", Probe.INDEX, () -> g.guardRange(i));
            Probe.fails("watched(" + i + ")", Probe.INDEX, () -> g.watched(i));
            Probe.fails("treasureAt(" + i + ")", Probe.INDEX, () -> g.treasureAt(i));
        }
        int[] oddPoints = {-1, 16, 63, 64, Integer.MIN_VALUE, Integer.MAX_VALUE};
        for (int p : oddPoints) {
            Probe.fails("watchers(" + p + ")", Probe.INDEX, () -> g.watchers(p));
        }
    }

    private static void present() {
        GalleryGuards g = Probe.loaded(GUARDED);
        Probe.due("guards()", g.guards(), 2);
        Probe.due("guardAt(0)", g.guardAt(0), 0);
        Probe.due("guardAt(1)", g.guardAt(1), 9);
        Probe.due("guardRange(0)", g.guardRange(0), 2);
        Probe.due("guardRange(1)", g.guardRange(1), 99);
        Probe.due("watched(0)", g.watched(0), Probe.set(0, 1, 2, 5, 6, 10));
        Probe.due("watched(1)", g.watched(1), 1023);
        Probe.due("unwatched()", g.unwatched(), Probe.set(11, 12, 13, 14, 15));
        int[] watchers = {2, 2, 2, 1, 1, 2, 2, 1, 1, 1, 1, 0, 0, 0, 0, 0};
        for (int p = 0; p < 16; p++) {
            Probe.due("watchers(" + p + ")", g.watchers(p), watchers[p]);
        }
        Probe.due("redundantGuards()", g.redundantGuards(), 0);
        Probe.due("bestPoint()", g.bestPoint(), 0);
        Probe.due("greedyGuards()", g.greedyGuards(), 1);
        Probe.due("treasures()", g.treasures(), 2);
        Probe.due("treasureAt(0)", g.treasureAt(0), 14);
        Probe.due("treasureAt(1)", g.treasureAt(1), 4);
        Probe.due("watchedValue()", g.watchedValue(), 5);
        Probe.due("bestValue()", g.bestValue(), 12);
    }

    private static void ranges() {
        // squared distances from (0, 0): 25 is reached by the range 5 at (3, 4) and (5, 0), 26 at (5, 1) is not
        GalleryGuards g = Probe.loaded("polygon 0 0 7 0 7 7 0 7;guard 0 0 range 5;guard 7 7 range 0");
        Probe.due("(3, 4) in the range 5", g.watchers(g.pointAt(3, 4)), 1);
        Probe.due("(5, 0) in the range 5", g.watchers(g.pointAt(5, 0)), 1);
        Probe.due("(5, 1) in the range 5", g.watchers(g.pointAt(5, 1)), 0);
        Probe.due("(4, 4) in the range 5", g.watchers(g.pointAt(4, 4)), 0);
        Probe.due("the range 0", g.watched(1), Long.MIN_VALUE);
        // near enough, but hidden
        GalleryGuards you = Probe.loaded(Probe.YOU + ";guard 1 3 range 1");
        Probe.due("hidden within the range", you.watched(0), Probe.set(9, 12, 13));
    }

    private static void withoutGuards() {
        GalleryGuards g = Probe.loaded(Probe.YOU + ";treasure 0 0 9");
        Probe.due("no guards: guards()", g.guards(), 0);
        Probe.due("no guards: unwatched()", g.unwatched(), 65535);
        Probe.due("no guards: watchers(3)", g.watchers(3), 0);
        Probe.due("no guards: redundantGuards()", g.redundantGuards(), 0);
        Probe.due("no guards: watchedValue()", g.watchedValue(), 0);
        Probe.due("no guards: bestValue()", g.bestValue(), 0);
        // (0, 0) and (1, 0) miss an arm's points: four of them or three, (2, 2), (2, 3) and (3, 3)
        Probe.due("no guards: bestPoint()", g.bestPoint(), 1);
        Probe.due("no guards: greedyGuards()", g.greedyGuards(), 2);
        GalleryGuards comb = Probe.loaded(Probe.COMB);
        Probe.due("comb: greedyGuards() is enough", comb.greedyGuards() >= 4, true);
        GalleryGuards full = Probe.loaded("polygon 0 0 7 0 7 7 0 7");
        Probe.due("full: unwatched()", full.unwatched(), -1L);
        Probe.due("full: greedyGuards()", full.greedyGuards(), 1);
    }

    private static void redundant() {
        GalleryGuards g = Probe.loaded(Probe.SQUARE + ";guard 1 1 range 1;guard 1 1 range 1;guard 0 0 range 0");
        Probe.due("two of a kind", g.redundantGuards(), 3);
        GalleryGuards h = Probe.loaded(Probe.SQUARE + ";guard 1 1 range 2;guard 0 0 range 2;guard 1 0 range 0");
        Probe.due("one watches all", h.redundantGuards(), 6);
        Probe.due("all is watched: unwatched()", h.unwatched(), 0);
        Probe.due("all is watched: bestPoint()", h.bestPoint(), 0);
        Probe.due("all is watched: greedyGuards()", h.greedyGuards(), 0);
        GalleryGuards six = Probe.loaded(Probe.SQUARE + ";guard 1 1".repeat(6));
        Probe.due("six of a kind", six.redundantGuards(), 63);
        Probe.due("six of a kind: watchers(8)", six.watchers(8), 6);
    }

    private static void bestPoints() {
        // the left arm is watched: the points of the right one are seen best from (2, 0)
        GalleryGuards g = Probe.loaded(Probe.YOU + ";guard 0 3");
        Probe.due("left arm watched: unwatched()", g.unwatched(), Probe.set(2, 3, 6, 7, 10, 11, 14, 15));
        Probe.due("left arm watched: bestPoint()", g.bestPoint(), 2);
        Probe.due("left arm watched: greedyGuards()", g.greedyGuards(), 1);
        // six guards are there already: greedy guards come on top of them
        GalleryGuards six = Probe.loaded(Probe.YOU + ";guard 0 0 range 0".repeat(6));
        Probe.due("six guards: greedyGuards()", six.greedyGuards(), 2);
    }

    private static void values() {
        GalleryGuards g = Probe.loaded(Probe.YOU + ";guard 0 3;guard 3 3 range 0;treasure 0 0 1;treasure 0 0 20;"
                + "treasure 3 0 300;treasure 2 2 5;treasure 1 2 999");
        Probe.due("two treasures at one point", g.watchedValue(), 1020);
        Probe.due("the same point", g.treasureAt(0), g.treasureAt(1));
        // the second guard to (3, 0), with its range of 0; the first one to the right arm would lose more
        Probe.due("one guard moved", g.bestValue(), 1320);
        GalleryGuards stay = Probe.loaded(Probe.SQUARE + ";guard 1 1 range 1;treasure 1 1 3;treasure 0 1 4;treasure 2 1 5");
        Probe.due("it stays best: watchedValue()", stay.watchedValue(), 12);
        Probe.due("it stays best: bestValue()", stay.bestValue(), 12);
        GalleryGuards all = Probe.loaded(Probe.SQUARE + ";guard 0 0 range 0" + ";treasure 1 1 999".repeat(6));
        Probe.due("all the treasures: watchedValue()", all.watchedValue(), 0);
        Probe.due("all the treasures: bestValue()", all.bestValue(), 5994);
        GalleryGuards none = Probe.loaded(Probe.SQUARE + ";guard 0 0");
        Probe.due("no treasures: watchedValue()", none.watchedValue(), 0);
        Probe.due("no treasures: bestValue()", none.bestValue(), 0);
        Probe.due("no treasures: treasures()", none.treasures(), 0);
    }

    public static void main(String[] args) {
        withoutPolygon();
        wrongNumbers();
        present();
        ranges();
        withoutGuards();
        redundant();
        bestPoints();
        values();
        Probe.end("GuardsTest");
    }
}

/** Promises 50 to 53: the changes of guards. */
final class GuardChangeSentences extends Sentences {
    private static final String RANGE = "- `range`: 0 to 99";
    private static final String WRONG_RANGE = "Throws `IllegalArgumentException` if range is out of range";

    GuardChangeSentences(Document document) {
        super(document);
    }

    @Override
    void all() {
        addGuard();
        removeGuard();
        moveGuard();
        setRange();
    }

    private void addGuard() {
        promise(50);
        says("Adds a guard.", () -> {
            GalleryGuards g = loaded(GUARDED);
            g.addGuard(8, 7);
            due("behind the others", Probe.stateOf(g), "0,0 2,0 2,2 0,2 /9/0r1 1r2 2r3 8r7 //1");
            due("what it watches", g.watched(3), 511);
        });
        says(IS_A_CHANGE, () -> isChange(() -> loaded(GUARDED), g -> g.addGuard(0, 0)));
        says(POINT, () -> {
            GalleryGuards g = loaded(FULL);
            for (int p = 0; p < 64; p++) {
                g.addGuard(p, 0);
                due("guardAt(0)", g.guardAt(0), p);
                g.undo();
            }
        });
        says(RANGE, () -> {
            GalleryGuards g = loaded(FULL);
            g.addGuard(0, 0);
            g.addGuard(0, 99);
            due("0", g.guardRange(0), 0);
            due("99", g.guardRange(1), 99);
        });
        says("Returns the number of the guard.", () -> {
            GalleryGuards g = loaded(Probe.SQUARE);
            for (int i = 0; i < 6; i++) {
                due("guard " + i, g.addGuard(i, i), i);
            }
            g.removeGuard(0);
            due("the sixth again", g.addGuard(0, 0), 5);
        });
        says(NO_POLYGON + ",", () -> noPolygon(g -> g.addGuard(0, 0), g -> g.addGuard(-1, 0), g -> g.addGuard(0, 100)));
        says("or if there are 6 guards", () -> {
            GalleryGuards g = loaded(Probe.SQUARE + ";guard 0 0".repeat(5));
            due("the sixth", g.addGuard(0, 0), 5);
            leavesAll(g, STATE, () -> g.addGuard(0, 0));
            leavesAll(g, STATE, () -> g.addGuard(8, 99));
            g.removeGuard(3);
            due("the sixth again", g.addGuard(0, 0), 5);
        });
        says("(checked last)", () -> {
            GalleryGuards g = loaded(Probe.SQUARE + ";guard 0 0".repeat(6));
            leavesAll(g, INDEX, () -> g.addGuard(9, 0));
            leavesAll(g, INDEX, () -> g.addGuard(-1, 100));
            leavesAll(g, ARGUMENT, () -> g.addGuard(0, 100));
            leavesAll(g, ARGUMENT, () -> g.addGuard(0, -1));
        });
        says(NO_POINT, () -> {
            below(0, loaded(Probe.SQUARE), (g, p) -> g.addGuard(p < 0 ? p : p + 9, 0));
            below(0, loaded(Probe.SQUARE), (g, p) -> g.addGuard(p < 0 ? p : p + 9, 100));
        });
        says(WRONG_RANGE, () -> outside(0, 99, loaded(Probe.SQUARE), (g, range) -> g.addGuard(8, range)));
    }

    private void removeGuard() {
        promise(51);
        says("Removes a guard;", () -> {
            GalleryGuards g = loaded(GUARDED);
            g.removeGuard(2);
            due("the last one", Probe.stateOf(g), "0,0 2,0 2,2 0,2 /9/0r1 1r2 //1");
        });
        says("the numbers of the later ones decrease by 1.", () -> {
            GalleryGuards g = loaded(GUARDED);
            g.removeGuard(1);
            due("without the middle one", Probe.stateOf(g), "0,0 2,0 2,2 0,2 /9/0r1 2r3 //1");
            g.removeGuard(0);
            due("without the first one", Probe.stateOf(g), "0,0 2,0 2,2 0,2 /9/2r3 //2");
            GalleryGuards six = loaded(Probe.SQUARE);
            for (int i = 0; i < 6; i++) {
                six.addGuard(i, i);
            }
            six.removeGuard(0);
            due("of 6", Probe.stateOf(six), "0,0 2,0 2,2 0,2 /9/1r1 2r2 3r3 4r4 5r5 //7");
        });
        says(IS_A_CHANGE, () -> {
            isChange(() -> loaded(GUARDED), g -> g.removeGuard(0));
            isChange(() -> loaded(GUARDED), g -> g.removeGuard(2));
        });
        says(GUARD, () -> {
            for (int i = 0; i < 6; i++) {
                due("one of six", loaded(Probe.SQUARE + ";guard 0 0".repeat(6)).removeGuard(i), 5);
            }
        });
        says("Returns the number of guards that are left.", () -> {
            GalleryGuards g = loaded(GUARDED);
            due("2", g.removeGuard(0), 2);
            due("1", g.removeGuard(0), 1);
            due("none", g.removeGuard(0), 0);
        });
        says(NO_POLYGON, () -> noPolygon(g -> g.removeGuard(0), g -> g.removeGuard(-1), g -> g.removeGuard(6)));
        says(NO_GUARD, () -> {
            GalleryGuards g = loaded(GUARDED);
            int[] others = {-1, 3, 5, 6, Integer.MIN_VALUE, Integer.MAX_VALUE};
            for (int guard : others) {
                leavesAll(g, INDEX, () -> g.removeGuard(guard));
            }
            GalleryGuards none = loaded(Probe.SQUARE);
            leavesAll(none, INDEX, () -> none.removeGuard(0));
        });
    }

    private void moveGuard() {
        promise(52);
        says("Moves a guard to a point.", () -> {
            GalleryGuards g = loaded(GUARDED);
            g.moveGuard(1, 8);
            due("it keeps its range", Probe.stateOf(g), "0,0 2,0 2,2 0,2 /9/0r1 8r2 2r3 //1");
            due("what it watches", g.watched(1), set(2, 4, 5, 6, 7, 8));
        });
        says(IS_A_CHANGE, () -> {
            isChange(() -> loaded(GUARDED), g -> g.moveGuard(0, 8));
            GalleryGuards g = loaded(GUARDED);
            g.moveGuard(0, 0);
            due("to where it is", g.undoable(), 1);
        });
        says(GUARD, () -> below(3, loaded(GUARDED), (g, guard) -> g.moveGuard(guard, 0)));
        says(POINT, () -> below(64, loaded(FULL + ";guard 0 0"), (g, point) -> g.moveGuard(0, point)));
        says("Returns the number of the previous point.", () -> {
            GalleryGuards g = loaded(FULL + ";guard 7 7");
            due("from 63", g.moveGuard(0, 0), 63);
            due("from 0", g.moveGuard(0, 5), 0);
            due("from 5 to 5", g.moveGuard(0, 5), 5);
        });
        says(NO_POLYGON, () -> noPolygon(g -> g.moveGuard(0, 0), g -> g.moveGuard(-1, 0), g -> g.moveGuard(0, 64)));
        says("Throws `IndexOutOfBoundsException` if there is no such guard or point", () -> {
            GalleryGuards g = loaded(GUARDED);
            leavesAll(g, INDEX, () -> g.moveGuard(3, 0));
            leavesAll(g, INDEX, () -> g.moveGuard(-1, 0));
            leavesAll(g, INDEX, () -> g.moveGuard(0, 9));
            leavesAll(g, INDEX, () -> g.moveGuard(0, -1));
            leavesAll(g, INDEX, () -> g.moveGuard(Integer.MAX_VALUE, Integer.MIN_VALUE));
            GalleryGuards none = loaded(Probe.SQUARE);
            leavesAll(none, INDEX, () -> none.moveGuard(0, 0));
        });
    }

    private void setRange() {
        promise(53);
        says("Sets the range of a guard.", () -> {
            GalleryGuards g = loaded(GUARDED);
            g.setRange(1, 50);
            due("it stays where it is", Probe.stateOf(g), "0,0 2,0 2,2 0,2 /9/0r1 1r50 2r3 //1");
            due("what it watches", g.watched(1), 511);
        });
        says(IS_A_CHANGE, () -> {
            isChange(() -> loaded(GUARDED), g -> g.setRange(2, 0));
            GalleryGuards g = loaded(GUARDED);
            g.setRange(0, 1);
            due("to what it is", g.undoable(), 1);
        });
        says(GUARD, () -> below(3, loaded(GUARDED), (g, guard) -> g.setRange(guard, 0)));
        says(RANGE, () -> {
            GalleryGuards g = loaded(GUARDED);
            g.setRange(0, 0);
            due("0", g.guardRange(0), 0);
            g.setRange(0, 99);
            due("99", g.guardRange(0), 99);
        });
        says("Returns the previous range.", () -> {
            GalleryGuards g = loaded(Probe.SQUARE + ";guard 0 0");
            due("99", g.setRange(0, 0), 99);
            due("0", g.setRange(0, 7), 0);
            due("7 to 7", g.setRange(0, 7), 7);
        });
        says(NO_POLYGON, () -> noPolygon(g -> g.setRange(0, 0), g -> g.setRange(-1, 0), g -> g.setRange(0, 100)));
        says(NO_GUARD, () -> {
            GalleryGuards g = loaded(GUARDED);
            leavesAll(g, INDEX, () -> g.setRange(3, 0));
            leavesAll(g, INDEX, () -> g.setRange(-1, 0));
            leavesAll(g, INDEX, () -> g.setRange(3, 100));
            leavesAll(g, INDEX, () -> g.setRange(-1, -1));
            GalleryGuards none = loaded(Probe.SQUARE);
            leavesAll(none, INDEX, () -> none.setRange(0, 0));
        });
        says(WRONG_RANGE, () -> {
            GalleryGuards g = loaded(GUARDED);
            outside(0, 99, g, (h, range) -> h.setRange(0, range));
            due("the range stays", g.guardRange(0), 1);
        });
    }
}

/** Promises 59 and 60: save, restore. */
public final class SlotsTest {
    private static final int[] ODD = {-1, 2, 3, Integer.MIN_VALUE, Integer.MAX_VALUE};

    private static void wrongSlots() {
        GalleryGuards g = new GalleryGuards();
        Probe.fails("save(0) without a polygon", Probe.STATE, () -> g.save(0));
        Probe.fails("restore(0), nothing saved", Probe.STATE, () -> g.restore(0));
        Probe.fails("restore(1), nothing saved", Probe.STATE, () -> g.restore(1));
        for (int odd : ODD) {
            Probe.fails("save(" + odd + ") without a polygon", Probe.STATE, () -> g.save(odd));
            Probe.fails("restore(" + odd + ")", Probe.INDEX, () -> g.restore(odd));
        }
        GalleryGuards h = Probe.loaded(Probe.SQUARE);
        for (int odd : ODD) {
            Probe.fails("save(" + odd + ")", Probe.INDEX, () -> h.save(odd));
            Probe.fails("restore(" + odd + ")", Probe.INDEX, () -> h.restore(odd));
        }
        h.addGuard(0, 1);
        Probe.due("save(0)", h.save(0), 9);
        Probe.fails("restore(1), nothing saved there", Probe.STATE, () -> h.restore(1));
        Probe.due("undoable() after that", h.undoable(), 1);
    }

    private static void slots() {
        GalleryGuards g = Probe.loaded(Probe.ELL + ";guard 0 0 range 2;treasure 4 0 5");
        Probe.due("save(0)", g.save(0), 16);
        g.addGuard(15, 3);
        Probe.due("save is no change", g.undoable(), 1);
        Probe.due("moveVertex(4, 2, 4)", g.moveVertex(4, 2, 4), 17);
        Probe.due("save(1)", g.save(1), 17);
        g.removeGuard(0);
        Probe.due("undoable()", g.undoable(), 3);
        Probe.due("restore(0)", g.restore(0), 16);
        Probe.due("what was saved in 0", Probe.stateOf(g), "0,0 4,0 4,1 1,1 1,4 0,4 /16/0r2 /4 /0");
        Probe.fails("undo after restore", Probe.STATE, () -> g.undo());
        g.setRange(0, 50);
        g.insertVertex(0, 2, 0);
        Probe.due("restore(1)", g.restore(1), 17);
        Probe.due("what was saved in 1", Probe.stateOf(g), "0,0 4,0 4,1 1,1 2,4 0,4 /17/0r2 15r3 /4 /0");
        Probe.due("what is seen there", g.visible(0), (1L << 17) - 1);
        Probe.due("restore(0) again", g.restore(0), 16);
        Probe.due("it stays saved", Probe.stateOf(g), "0,0 4,0 4,1 1,1 1,4 0,4 /16/0r2 /4 /0");
        g.setRange(0, 7);
        Probe.due("save(1) in place of the other", g.save(1), 16);
        g.restore(0);
        Probe.due("range in 0", g.guardRange(0), 2);
        g.restore(1);
        Probe.due("range in 1", g.guardRange(0), 7);
        g.setRange(0, 8);
        Probe.due("undo after save", g.undo(), 0);
        Probe.due("range after undo", g.guardRange(0), 7);
    }

    public static void main(String[] args) {
        wrongSlots();
        slots();
        Probe.end("SlotsTest");
    }
}

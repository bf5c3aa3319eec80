/** Promises 57 to 60: undo, undoable, save and restore. */
final class UndoSentences extends Sentences {
    UndoSentences(Document document) {
        super(document);
    }

    @Override
    void all() {
        undo();
        save();
        restore();
    }

    private void undo() {
        promise(57);
        says("Undoes the latest change that has not been undone.", () -> {
            GalleryGuards g = loaded(Probe.SQUARE + ";guard 0 0 range 0");
            g.setRange(0, 1);
            g.setRange(0, 2);
            g.undo();
            due("the latest one", g.guardRange(0), 1);
            g.setRange(0, 3);
            g.undo();
            due("the one after an undo", g.guardRange(0), 1);
            g.undo();
            due("the first one", g.guardRange(0), 0);
            // saves are no changes, and neither are calls that throw
            g.setRange(0, 4);
            g.save(0);
            fails("setRange(0, 100)", ARGUMENT, () -> g.setRange(0, 100));
            g.undo();
            due("the one before save", g.guardRange(0), 0);
        });
        says("Returns the number of changes that can still be undone.", () -> {
            GalleryGuards g = loaded(Probe.SQUARE + ";guard 0 0 range 0");
            for (int i = 1; i <= 9; i++) {
                g.setRange(0, i);
            }
            for (int i = 7; i >= 0; i--) {
                due("undo()", g.undo(), i);
            }
            // some undone, others made in their place
            for (int i = 1; i <= 8; i++) {
                g.setRange(0, 10 + i);
            }
            due("7", g.undo(), 7);
            due("6", g.undo(), 6);
            for (int i = 1; i <= 3; i++) {
                g.setRange(0, 20 + i);
            }
            due("7 of 9", g.undo(), 7);
            for (int i = 6; i >= 0; i--) {
                due("undo()", g.undo(), i);
            }
            due("the oldest one that is kept", g.guardRange(0), 11);
        });
        says("Throws `IllegalStateException` if there is none", () -> {
            fails("no polygon", STATE, () -> new GalleryGuards().undo());
            GalleryGuards g = loaded(GUARDED);
            leavesAll(g, STATE, () -> g.undo());
            g.removeGuard(0);
            g.undo();
            leavesAll(g, STATE, () -> g.undo());
            g.save(0);
            g.removeGuard(0);
            g.restore(0);
            leavesAll(g, STATE, () -> g.undo());
            g.removeGuard(0);
            reload(g, GUARDED);
            leavesAll(g, STATE, () -> g.undo());
        });
        promise(58);
        says("Returns the number of changes that can be undone, 0 to 8.", () -> {
            GalleryGuards g = new GalleryGuards();
            due("new", g.undoable(), 0);
            reload(g, Probe.SQUARE + ";guard 0 0 range 0");
            due("loaded", g.undoable(), 0);
            for (int i = 1; i <= 20; i++) {
                g.setRange(0, i);
                due("after " + i, g.undoable(), Math.min(i, 8));
            }
            g.undo();
            due("7", g.undoable(), 7);
            g.setRange(0, 1);
            due("8", g.undoable(), 8);
            g.save(0);
            due("after save", g.undoable(), 8);
            g.restore(0);
            due("after restore", g.undoable(), 0);
        });
    }

    private void save() {
        promise(59);
        says("Saves the state in a slot,", () -> {
            GalleryGuards g = loaded(Probe.ELL + ";guard 0 0 range 2;treasure 4 0 5");
            String saved = Everything.asked(g);
            g.save(0);
            g.moveVertex(4, 2, 4);
            g.addGuard(15, 3);
            String later = Probe.stateOf(g);
            g.save(1);
            g.removeGuard(0);
            g.undo();
            g.undo();
            g.restore(0);
            same("slot 0", Everything.asked(g), saved);
            g.restore(1);
            due("slot 1", Probe.stateOf(g), later.substring(0, later.length() - 1) + "0");
        });
        says("in place of what was saved there.", () -> {
            GalleryGuards g = loaded(Probe.SQUARE + ";guard 0 0 range 0");
            g.save(0);
            g.save(1);
            g.setRange(0, 5);
            g.save(0);
            g.setRange(0, 6);
            g.restore(0);
            due("slot 0", g.guardRange(0), 5);
            g.restore(1);
            due("slot 1", g.guardRange(0), 0);
        });
        says("- `slot`: 0 or 1", () -> {
            GalleryGuards g = loaded(Probe.SQUARE);
            due("0", g.save(0), 9);
            due("1", g.save(1), 9);
        });
        says("Returns the number of points.", () -> {
            due("the fewest", loaded("polygon 0 0 1 0 0 1").save(0), 3);
            due("the most", loaded(FULL).save(1), 64);
        });
        says(NO_POLYGON, () -> noPolygon(g -> g.save(0), g -> g.save(1), g -> g.save(2), g -> g.save(-1)));
        says("Throws `IndexOutOfBoundsException` if there is no such slot", () -> {
            below(2, loaded(Probe.SQUARE), GalleryGuards::save);
            GalleryGuards g = loaded(Probe.SQUARE);
            fails("save(2)", INDEX, () -> g.save(2));
            fails("save(-1)", INDEX, () -> g.save(-1));
            fails("nothing was saved", STATE, () -> g.restore(0));
            fails("nothing was saved", STATE, () -> g.restore(1));
        });
    }

    private void restore() {
        promise(60);
        says("Restores what was saved in a slot;", () -> {
            GalleryGuards g = loaded(Probe.ELL + ";guard 0 0 range 2;treasure 4 0 5");
            String saved = Everything.asked(g);
            g.save(1);
            g.moveVertex(4, 2, 4);
            g.moveGuard(0, 3);
            Everything.asked(g);
            g.restore(1);
            same("all of it", Everything.asked(g), saved);
        });
        says("it stays saved.", () -> {
            GalleryGuards g = loaded(Probe.SQUARE + ";guard 0 0 range 0");
            g.save(0);
            for (int i = 1; i <= 3; i++) {
                g.setRange(0, i);
                g.deleteVertex(2);
                due("restore(0)", g.restore(0), 9);
                due("the range", g.guardRange(0), 0);
            }
            g.restore(0);
            due("twice at once", g.guardRange(0), 0);
            // undo leaves it as well
            g.setRange(0, 7);
            g.undo();
            due("after undo", g.restore(0), 9);
        });
        says("Nothing can be undone afterwards.", () -> {
            GalleryGuards g = loaded(Probe.SQUARE + ";guard 0 0 range 0");
            g.setRange(0, 1);
            g.save(0);
            g.setRange(0, 2);
            g.restore(0);
            due("undoable()", g.undoable(), 0);
            leavesAll(g, STATE, () -> g.undo());
            g.setRange(0, 3);
            due("a change after it", g.undo(), 0);
            due("the range", g.guardRange(0), 1);
        });
        says("- `slot`: 0 or 1", () -> {
            GalleryGuards g = loaded(Probe.SQUARE);
            g.save(0);
            g.deleteVertex(0);
            g.save(1);
            due("0", g.restore(0), 9);
            due("1", g.restore(1), 6);
        });
        says("Returns the number of points.", () -> {
            GalleryGuards g = loaded(FULL);
            g.save(0);
            g.deleteVertex(0);
            due("64", g.restore(0), 64);
        });
        says("Throws `IndexOutOfBoundsException` if there is no such slot", () -> {
            below(0, new GalleryGuards(), (g, slot) -> g.restore(slot < 0 ? slot : slot + 2));
            GalleryGuards g = loaded(Probe.SQUARE);
            g.save(0);
            g.save(1);
            g.deleteVertex(0);
            leavesAll(g, INDEX, () -> g.restore(2));
            leavesAll(g, INDEX, () -> g.restore(-1));
            below(2, g, GalleryGuards::restore);
        });
        says("Throws `IllegalStateException` if nothing is saved there", () -> {
            fails("a new object, slot 0", STATE, () -> new GalleryGuards().restore(0));
            fails("a new object, slot 1", STATE, () -> new GalleryGuards().restore(1));
            GalleryGuards g = loaded(GUARDED);
            g.save(1);
            g.removeGuard(0);
            leavesAll(g, STATE, () -> g.restore(0));
            g.restore(1);
            g.save(0);
            reload(g, Probe.SQUARE);
            leavesAll(g, STATE, () -> g.restore(0));
            leavesAll(g, STATE, () -> g.restore(1));
        });
    }
}

import java.util.function.Supplier;

/** Section 6: exceptions, changes and undo. */
final class RuleSentences extends Sentences {
    /** One of each exception that each method of the face lists, for the object of busy(). */
    private static final Ask[] REFUSED = {
        g -> g.load(-1), g -> g.load(41), g -> g.vertexX(6), g -> g.vertexY(-1), g -> g.pointX(17), g -> g.pointY(-1),
        g -> g.sees(0, 17), g -> g.visible(64), g -> g.linkDistance(-1, 0), g -> g.farthest(17), g -> g.seenFromEdge(6),
        g -> g.triangleVertex(4, 0), g -> g.triangleVertex(0, 3), g -> g.triangleArea(4), g -> g.colour(6),
        g -> g.guardPoint(4), g -> g.witness(4), g -> g.guardAt(6), g -> g.guardRange(6), g -> g.watched(6),
        g -> g.watchers(17), g -> g.treasureAt(2), g -> g.draw(16), g -> g.draw(-1), g -> g.drawnByte(16),
        g -> g.addGuard(17, 0), g -> g.addGuard(0, 100), g -> g.addGuard(0, 99), g -> g.removeGuard(6),
        g -> g.moveGuard(6, 0), g -> g.moveGuard(0, 17), g -> g.setRange(6, 0), g -> g.setRange(0, 100),
        g -> g.moveVertex(6, 0, 0), g -> g.moveVertex(0, 16, 0), g -> g.moveVertex(0, 0, -1),
        g -> g.moveVertex(0, 4, 0), g -> g.moveVertex(0, 1, 0), g -> g.insertVertex(6, 0, 0),
        g -> g.insertVertex(0, 16, 0), g -> g.insertVertex(0, 4, 0), g -> g.insertVertex(0, 2, 1),
        g -> g.deleteVertex(6), g -> g.deleteVertex(0), g -> g.deleteVertex(1), g -> g.save(2), g -> g.save(-1),
        g -> g.restore(2), g -> g.restore(1),
    };

    RuleSentences(Document document) {
        super(document);
    }

    @Override
    void all() {
        part("Section 6");
        exceptions();
        nothingChanges();
        stateAndUndo();
        polygonChanges();
    }

    /** 6 guards, 2 treasures, 3 changes, a state in slot 0, a drawn row, an error, and 40 bytes in the buffer. */
    private static GalleryGuards busy() {
        GalleryGuards g = loaded(Probe.ELL + ";guard 0 0 range 2;guard 4 1".repeat(2)
                + ";guard 1 1;treasure 4 0 5;treasure 0 4 7");
        g.save(0);
        g.addGuard(3, 5);
        g.moveVertex(4, 2, 4);
        g.setRange(0, 7);
        g.draw(1);
        Probe.refusedBy(g, "polygon 16", 2, 8);
        Probe.append(g, TWELVE.substring(0, 40));
        return g;
    }

    /** 8 changes of 9, two different states in the slots, and no row drawn. */
    private static GalleryGuards brimful() {
        GalleryGuards g = loaded(Probe.ELL + ";guard 0 0 range 2;treasure 4 0 5;treasure 0 4 7");
        g.save(1);
        g.addGuard(3, 5);
        g.insertVertex(0, 2, 0);
        g.deleteVertex(1);
        g.save(0);
        g.addGuard(2, 5);
        g.addGuard(3, 6);
        g.addGuard(4, 7);
        g.addGuard(5, 8);
        g.moveVertex(4, 2, 4);
        g.setRange(0, 8);
        return g;
    }

    private void exceptions() {
        says("IllegalStateException is thrown if there is no polygon (no text was loaded).", () -> {
            noPolygon(GalleryGuards::doubleArea, GalleryGuards::kernel, GalleryGuards::guardNumber, g -> g.vertexX(0),
                    g -> g.draw(0), g -> g.addGuard(0, 0), g -> g.moveVertex(0, 0, 0), g -> g.save(0));
            GalleryGuards g = new GalleryGuards();
            reload(g, Probe.SQUARE);
            due("once a text was loaded", g.doubleArea(), 8);
            Probe.refusedBy(g, "polygon", 1, 7);
            due("and the next one was refused", g.doubleArea(), 8);
        });
        says("IndexOutOfBoundsException is thrown if there is no such vertex, edge, point, guard, treasure, triangle, "
                + "slot or index;", () -> {
            GalleryGuards g = loaded(GUARDED + ";treasure 0 0 1;treasure 1 1 1");
            below(4, g, GalleryGuards::vertexX);
            below(4, g, GalleryGuards::seenFromEdge);
            below(9, g, GalleryGuards::pointX);
            below(3, g, GalleryGuards::guardAt);
            below(2, g, GalleryGuards::treasureAt);
            below(2, g, GalleryGuards::triangleArea);
            below(2, g, GalleryGuards::save);
            below(1, g, GalleryGuards::guardPoint);
        });
        says("IllegalArgumentException if another argument is out of its range.", () -> {
            GalleryGuards g = loaded(GUARDED);
            outside(0, 2, g, (h, k) -> h.triangleVertex(0, k));
            outside(0, 15, g, GalleryGuards::draw);
            outside(0, 99, g, (h, range) -> h.addGuard(0, range));
            outside(0, 99, g, (h, range) -> h.setRange(0, range));
            outside(0, 15, g, (h, x) -> h.moveVertex(2, x, 2));
            outside(0, 15, g, (h, y) -> h.insertVertex(2, 1, y));
        });
        says("If several exceptions apply, the one that is listed first at the method is thrown.", () -> {
            GalleryGuards bare = new GalleryGuards();
            fails("no polygon, no triangle, no k", STATE, () -> bare.triangleVertex(-1, 3));
            fails("no polygon, no point, no range", STATE, () -> bare.addGuard(-1, 100));
            fails("no polygon, no vertex, no x", STATE, () -> bare.moveVertex(-1, 16, 16));
            fails("no polygon, no slot", STATE, () -> bare.save(2));
            fails("no polygon, no row", STATE, () -> bare.draw(16));
            // restore and load list the index first
            fails("no slot, nothing saved", INDEX, () -> bare.restore(2));
            fails("not so many bytes, no text", INDEX, () -> bare.load(1));
            GalleryGuards g = loaded(TWELVE + ";guard 0 0".repeat(6));
            fails("no triangle, no k", INDEX, () -> g.triangleVertex(10, 3));
            fails("no point, no range, 6 guards", INDEX, () -> g.addGuard(25, 100));
            fails("no range, 6 guards", ARGUMENT, () -> g.addGuard(0, 100));
            fails("no guard, no range", INDEX, () -> g.setRange(6, 100));
            fails("no vertex, no x", INDEX, () -> g.moveVertex(12, 16, 0));
            fails("no vertex, no y, 12 vertices", INDEX, () -> g.insertVertex(12, 0, 16));
            fails("no vertex of three", INDEX, () -> loaded(TRIANGLE).deleteVertex(3));
        });
    }

    private void nothingChanges() {
        says("A call that throws an exception changes nothing,", () -> {
            Ask[] ofBare = {GalleryGuards::undo, g -> g.restore(0), g -> g.restore(5), g -> g.load(1), g -> g.save(0),
                g -> g.draw(0), g -> g.drawnByte(0), g -> g.addGuard(0, 0), g -> g.moveVertex(0, 0, 0)};
            refusesAll(RuleSentences::busy, REFUSED);
            refusesAll(GalleryGuards::new, ofBare);
            Ask[] ofBrimful = {g -> g.addGuard(0, 100), g -> g.addGuard(17, 0), g -> g.removeGuard(6),
                g -> g.moveGuard(0, -1), g -> g.setRange(0, -1), g -> g.moveVertex(0, 4, 0),
                g -> g.insertVertex(0, 4, 0), g -> g.deleteVertex(0), g -> g.restore(2), g -> g.drawnByte(0),
                g -> g.draw(99), g -> g.load(1)};
            refusesAll(RuleSentences::brimful, ofBrimful);
            Ask[] ofFull = {g -> g.moveVertex(2, 8, 8), g -> g.insertVertex(1, 8, 3), g -> g.moveVertex(2, 6, 6),
                g -> g.deleteVertex(0), g -> g.restore(0), GalleryGuards::undo};
            refusesAll(() -> loaded(FULL + ";guard 7 7;treasure 0 0 5"), ofFull);
        });
        says("except that load empties the input buffer and sets parseError() and errorPosition().", () -> {
            GalleryGuards g = busy();
            fails("load(37)", ARGUMENT, () -> g.load(37));
            due("buffered()", g.buffered(), 0);
            due("parseError()", g.parseError(), 1);
            due("errorPosition()", g.errorPosition(), 37);
            same("the rest", Everything.butInput(g), Everything.butInput(busy()));
            String[] texts = {"", "polygon 16", "polygon 0 0 1 0 2 0", FULL + ";guard 8 8", TWELVE + " 1 1",
                Probe.SQUARE + ";guard 0 0;treasure 0 0 1;"};
            for (String text : texts) {
                GalleryGuards full = brimful();
                Probe.append(full, text);
                fails("load of " + text, ARGUMENT, () -> full.load(text.length()));
                same("the rest after " + text, Everything.butInput(full), Everything.butInput(brimful()));
            }
        });
    }

    private static void refusesAll(Supplier<GalleryGuards> maker, Ask[] calls) {
        String untouched = Everything.of(maker.get());
        for (int i = 0; i < calls.length; i++) {
            GalleryGuards g = maker.get();
            boolean thrown = false;
            try {
                calls[i].of(g);
            } catch (RuntimeException e) {
                thrown = true;
            }
            due("call " + i + " throws", thrown, true);
            same("all is the same after call " + i, Everything.of(g), untouched);
        }
    }

    private void stateAndUndo() {
        says("The state consists of the polygon, the guards and the treasures.", () -> {
            GalleryGuards g = loaded(Probe.ELL + ";guard 0 0 range 2;treasure 4 0 5");
            String saved = Everything.asked(g);
            g.save(0);
            g.deleteVertex(3);
            g.addGuard(1, 1);
            g.moveGuard(0, 5);
            g.setRange(0, 9);
            g.restore(0);
            same("all of it comes back", Everything.asked(g), saved);
        });
        says("The methods that are documented as changes can be undone, the latest one first.", () -> {
            GalleryGuards g = loaded(Probe.ELL + ";guard 0 0 range 2;treasure 4 0 5");
            String[] before = new String[7];
            Ask[] changes = {h -> h.addGuard(3, 5), h -> h.moveVertex(4, 2, 4), h -> h.moveGuard(0, 7),
                h -> h.insertVertex(0, 2, 0), h -> h.setRange(1, 6), h -> h.deleteVertex(6), h -> h.removeGuard(0)};
            for (int i = 0; i < 7; i++) {
                before[i] = Everything.asked(g);
                changes[i].of(g);
            }
            for (int i = 6; i >= 0; i--) {
                due("undo()", g.undo(), i);
                same("all that was before change " + i, Everything.asked(g), before[i]);
            }
        });
        says("Only the latest 8 changes", () -> {
            for (int count = 7; count <= 20; count++) {
                GalleryGuards g = loaded(Probe.SQUARE + ";guard 0 0 range 0");
                for (int i = 1; i <= count; i++) {
                    g.setRange(0, i);
                }
                int kept = Math.min(count, 8);
                due("undoable() after " + count, g.undoable(), kept);
                for (int i = 1; i <= kept; i++) {
                    due("undo() after " + count, g.undo(), kept - i);
                    due("the range after " + count, g.guardRange(0), count - i);
                }
                fails("one undo more after " + count, STATE, () -> g.undo());
                due("the range stays", g.guardRange(0), count - kept);
            }
        });
        says("since the last successful call of load or restore are kept for this.", () -> {
            GalleryGuards g = loaded(GUARDED);
            g.save(0);
            g.removeGuard(0);
            g.removeGuard(0);
            fails("restore(1)", STATE, () -> g.restore(1));
            fails("restore(2)", INDEX, () -> g.restore(2));
            Probe.refusedBy(g, "polygon", 1, 7);
            due("calls without success", g.undoable(), 2);
            g.restore(0);
            due("restore", g.undoable(), 0);
            g.removeGuard(0);
            due("one since restore", g.undoable(), 1);
            reload(g, GUARDED);
            due("load", g.undoable(), 0);
            fails("undo()", STATE, () -> g.undo());
            due("the guards stay", g.guards(), 3);
        });
    }

    /** After each change, and each of them undone, the answers are those of an object that loaded that polygon. */
    private static void numberedAnew() {
        String lines = ";guard 0 0 range 2;guard 3 3;treasure 3 0 5";
        String[] texts = {Probe.YOU, "polygon 0 0 3 0 3 3 2 3 2 1 1 2 1 3 0 3",
            "polygon 0 0 3 0 3 3 2 3 2 1 1 2 1 3 0 4 0 3", "polygon 0 0 3 0 3 3 2 3 2 1 1 3 0 4 0 3",
            "polygon 0 0 3 0 3 3 2 3 1 3 0 4 0 3"};
        Ask[] changes = {h -> h.moveVertex(5, 1, 2), h -> h.insertVertex(6, 0, 4), h -> h.deleteVertex(5),
            h -> h.deleteVertex(4)};
        GalleryGuards g = loaded(texts[0] + lines);
        Everything.asked(g);
        for (int i = 0; i < changes.length; i++) {
            changes[i].of(g);
            same("the answers after change " + i, Everything.askedOfState(g),
                    Everything.askedOfState(loaded(texts[i + 1] + lines)));
        }
        for (int i = changes.length - 1; i >= 0; i--) {
            g.undo();
            same("the answers after undo " + i, Everything.askedOfState(g),
                    Everything.askedOfState(loaded(texts[i] + lines)));
        }
    }

    private void polygonChanges() {
        says("If a change alters the polygon, its points are numbered anew;", () -> {
            GalleryGuards g = loaded(Probe.SQUARE);
            g.deleteVertex(0);
            int[] places = {2, 0, 1, 1, 2, 1, 0, 2, 1, 2, 2, 2};
            due("points()", g.points(), 6);
            for (int p = 0; p < 6; p++) {
                due("the number of point " + p, g.pointAt(places[2 * p], places[2 * p + 1]), p);
            }
            due("(0, 0)", g.pointAt(0, 0), -1);
            g.undo();
            due("(2, 0) after undo", g.pointAt(2, 0), 2);
            numberedAnew();
        });
        says("guards and treasures keep their coordinates.", () -> {
            GalleryGuards g = loaded(Probe.SQUARE + ";guard 2 2 range 1;treasure 0 2 5");
            due("before", g.guardAt(0) + " " + g.treasureAt(0), "8 6");
            g.deleteVertex(0);
            due("after deleteVertex", g.guardAt(0) + " " + g.treasureAt(0), at(g, 2, 2) + " " + at(g, 0, 2));
            due("their numbers", g.guardAt(0) + " " + g.treasureAt(0), "5 3");
            g.insertVertex(2, 0, 0);
            due("after insertVertex", g.guardAt(0) + " " + g.treasureAt(0), "8 6");
            g.moveVertex(0, 15, 0);
            due("after moveVertex", g.guardAt(0) + " " + g.treasureAt(0), at(g, 2, 2) + " " + at(g, 0, 2));
        });
        says("A change of the polygon is possible if the new polygon is simple,", () -> {
            GalleryGuards g = loaded(Probe.SQUARE);
            leavesAll(g, ARGUMENT, () -> g.moveVertex(0, 2, 0));
            leavesAll(g, ARGUMENT, () -> g.moveVertex(0, 3, 1));
            leavesAll(g, ARGUMENT, () -> g.moveVertex(0, 2, 1));
            leavesAll(g, ARGUMENT, () -> g.insertVertex(0, 0, 0));
            leavesAll(g, ARGUMENT, () -> g.insertVertex(0, 1, 2));
            leavesAll(g, ARGUMENT, () -> g.insertVertex(0, 3, 0));
            GalleryGuards flat = loaded("polygon 0 0 1 0 2 0 2 2");
            leavesAll(flat, ARGUMENT, () -> flat.deleteVertex(3));
            GalleryGuards ell = loaded(Probe.ELL);
            leavesAll(ell, ARGUMENT, () -> ell.deleteVertex(0));
            // angles of 180 degrees are allowed here too
            due("moved", g.moveVertex(0, 1, 1), 6);
            due("put in", g.insertVertex(1, 2, 1), 6);
        });
        says("has 3 to 12 vertices", () -> {
            GalleryGuards g = loaded(TWELVE);
            leavesAll(g, ARGUMENT, () -> g.insertVertex(2, 3, 0));
            due("11", g.deleteVertex(1), 25);
            due("12 again", g.insertVertex(1, 3, 0), 25);
            leavesAll(g, ARGUMENT, () -> g.insertVertex(0, 1, 0));
            GalleryGuards h = loaded(Probe.SQUARE);
            due("3", h.deleteVertex(3), 6);
            leavesAll(h, ARGUMENT, () -> h.deleteVertex(0));
            leavesAll(h, ARGUMENT, () -> h.deleteVertex(2));
        });
        says("and at most 64 points,", () -> {
            GalleryGuards g = loaded("polygon 0 1 7 1 7 8 1 8 0 7");
            due("64 by insertVertex", g.insertVertex(0, 3, 0), 64);
            leavesAll(g, ARGUMENT, () -> g.insertVertex(2, 8, 4));
            leavesAll(g, ARGUMENT, () -> g.moveVertex(5, 0, 8));
            leavesAll(g, ARGUMENT, () -> g.moveVertex(4, 0, 8));
            GalleryGuards h = loaded("polygon 0 0 7 0 7 7 1 7 0 6");
            due("64 by moveVertex", h.moveVertex(4, 0, 7), 64);
            GalleryGuards notched = loaded("polygon 0 0 12 0 12 4 7 4 6 3 5 4 0 4");
            due("points()", notched.points(), 64);
            leavesAll(notched, ARGUMENT, () -> notched.deleteVertex(4));
            GalleryGuards less = loaded("polygon 0 0 7 0 7 7 4 7 3 6 2 7 0 7");
            due("64 by deleteVertex", less.deleteVertex(4), 64);
        });
        says("and all guards and treasures are at points of it.", () -> {
            String[] things = {"guard 2 2 range 0", "guard 1 1;guard 2 2", "treasure 2 2 5",
                "treasure 1 1 5;treasure 2 2 5"};
            for (String thing : things) {
                GalleryGuards g = loaded(Probe.SQUARE + ";" + thing);
                leavesAll(g, ARGUMENT, () -> g.moveVertex(2, 1, 1));
                leavesAll(g, ARGUMENT, () -> g.deleteVertex(2));
                due("others can be moved", g.moveVertex(0, 1, 0), 7);
            }
            GalleryGuards g = loaded(Probe.SQUARE + ";guard 1 2;treasure 2 1 5");
            leavesAll(g, ARGUMENT, () -> g.insertVertex(2, 1, 1));
            leavesAll(g, ARGUMENT, () -> g.insertVertex(1, 1, 1));
            due("on the new boundary", g.deleteVertex(0), 6);
            due("outwards", g.insertVertex(1, 1, 3), 7);
        });
    }
}

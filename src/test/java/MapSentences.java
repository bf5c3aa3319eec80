/** Promises 48 and 49: the map. */
final class MapSentences extends Sentences {
    private static final String BLANKS = " ".repeat(16);

    MapSentences(Document document) {
        super(document);
    }

    @Override
    void all() {
        promise(48);
        texts();
        signs();
        drawBounds();
        drawnByte();
    }

    private static String drawn(GalleryGuards g) {
        StringBuilder row = new StringBuilder();
        for (int i = 0; i < 16; i++) {
            row.append((char) g.drawnByte(i));
        }
        return row.toString();
    }

    private static String row(GalleryGuards g, int y) {
        g.draw(y);
        return drawn(g);
    }

    private static String filled(String row) {
        return (row + BLANKS).substring(0, 16);
    }

    private void texts() {
        says("Writes a row of the map as a text of 16 bytes,", () -> {
            due("a row of the ell", row(loaded(Probe.ELL), 1), filled("-V--V"));
            due("a row to the last byte", row(loaded("polygon 0 0 15 0 15 1 0 1"), 0), "V--------------V");
            GalleryGuards g = loaded(Probe.ELL);
            g.draw(0);
            below(16, g, GalleryGuards::drawnByte);
        });
        says("which replaces the text that was written before.", () -> {
            GalleryGuards g = loaded(Probe.ELL);
            due("row 0", row(g, 0), filled("V---V"));
            due("row 4", row(g, 4), filled("VV"));
            due("row 15", row(g, 15), BLANKS);
            due("row 0 again", row(g, 0), filled("V---V"));
        });
        says("For each x from 0 to 15 it has the byte of the point (x, y):", () -> {
            GalleryGuards g = loaded("polygon 13 14 15 14 15 15 13 15");
            due("row 14", row(g, 14), " ".repeat(13) + "V-V");
            due("row 15", row(g, 15), " ".repeat(13) + "V-V");
            due("row 13", row(g, 13), BLANKS);
            due("row 0 of a corner", row(loaded("polygon 0 0 1 0 0 1"), 0), filled("VV"));
            due("row 1 of a corner", row(loaded("polygon 0 0 1 0 0 1"), 1), filled("V"));
        });
    }

    private void signs() {
        says("a blank if it is no point of the polygon;", () -> {
            due("left, right and between", row(loaded("polygon 1 0 7 0 7 3 5 3 4 1 3 3 1 3"), 3), filled(" V-V V-V"));
            due("a whole row", row(loaded(Probe.SQUARE), 3), BLANKS);
        });
        says("otherwise G if a guard is there;", () -> {
            // it goes before a treasure, a vertex and what is watched
            due("on all of them", row(loaded(Probe.SQUARE + ";treasure 0 0 1;guard 0 0 range 0"), 0), filled("G-V"));
            due("on a treasure", row(loaded(Probe.SQUARE + ";treasure 1 1 1;guard 1 1 range 0"), 1), filled("-G-"));
            due("two of them", row(loaded(Probe.SQUARE + ";guard 1 1 range 0".repeat(2)), 1), filled("-G-"));
        });
        says("otherwise T if a treasure is there;", () -> {
            due("on a vertex", row(loaded(Probe.SQUARE + ";treasure 0 0 1"), 0), filled("T-V"));
            due("watched", row(loaded(Probe.SQUARE + ";treasure 1 1 1;guard 0 0"), 1), filled("+T+"));
            due("unwatched", row(loaded(Probe.SQUARE + ";treasure 1 1 1"), 1), filled("-T-"));
        });
        says("otherwise V if it is a vertex;", () -> {
            due("watched", row(loaded(Probe.SQUARE + ";guard 1 1"), 0), filled("V+V"));
            due("unwatched", row(loaded(Probe.SQUARE), 0), filled("V-V"));
            due("flat ones", row(loaded(TWELVE), 0), filled("VVV-V"));
        });
        says("otherwise a plus sign if it is watched,", () -> {
            due("by one", row(loaded(Probe.SQUARE + ";guard 0 1 range 1"), 1), filled("G+-"));
            due("by two", row(loaded(Probe.SQUARE + ";guard 0 1 range 1;guard 2 1 range 1"), 1), filled("G+G"));
        });
        says("a minus sign if not.", () -> {
            due("not seen", row(loaded(Probe.YOU + ";guard 0 3"), 2), filled("++--"));
            due("not within the range", row(loaded(Probe.SQUARE + ";guard 0 1 range 0"), 1), filled("G--"));
        });
    }

    private void drawBounds() {
        says("- `y`: 0 to 15", () -> {
            due("draw(0)", loaded("polygon 0 0 1 0 0 1").draw(0), 2);
            due("draw(15)", loaded("polygon 14 15 15 15 15 14").draw(15), 2);
        });
        says("Returns the number of points of the polygon in this row.", () -> {
            due("none", loaded(Probe.SQUARE).draw(3), 0);
            due("16", loaded("polygon 0 0 15 0 15 1 0 1").draw(1), 16);
            due("with a gap", loaded("polygon 1 0 7 0 7 3 5 3 4 1 3 3 1 3").draw(3), 6);
        });
        says(NO_POLYGON, () -> noPolygon(g -> g.draw(0), g -> g.draw(-1), g -> g.draw(16)));
        says("Throws `IllegalArgumentException` if y is out of range", () -> {
            GalleryGuards g = loaded(Probe.SQUARE);
            outside(0, 15, g, GalleryGuards::draw);
            fails("nothing was drawn yet", INDEX, () -> g.drawnByte(0));
            due("row 1", row(g, 1), filled("---"));
            outside(0, 15, g, GalleryGuards::draw);
            due("the text stays", drawn(g), filled("---"));
        });
    }

    private void drawnByte() {
        promise(49);
        says("Returns a byte of the text that draw wrote last.", () -> {
            GalleryGuards g = loaded(Probe.SQUARE);
            g.draw(0);
            g.addGuard(1, 0);
            due("as it was drawn", drawn(g), filled("V-V"));
            g.draw(0);
            due("drawn anew", drawn(g), filled("VGV"));
            // the text is no part of the state
            g.undo();
            due("after undo", drawn(g), filled("VGV"));
            reload(g, Probe.ELL);
            due("after load", drawn(g), filled("VGV"));
            Probe.refusedBy(g, "polygon", 1, 7);
            due("after a refused text", drawn(g), filled("VGV"));
            g.save(0);
            g.restore(0);
            due("after restore", drawn(g), filled("VGV"));
        });
        says("- `i`: 0 to 15", () -> {
            GalleryGuards g = loaded("polygon 0 0 15 0 15 1 0 1;guard 0 0 range 0");
            g.draw(0);
            due("drawnByte(0)", g.drawnByte(0), (int) 'G');
            due("drawnByte(1)", g.drawnByte(1), (int) '-');
            due("drawnByte(15)", g.drawnByte(15), (int) 'V');
        });
        says("Returns the byte.", () -> {
            GalleryGuards g = loaded(Probe.SQUARE + ";guard 0 1 range 1;treasure 0 0 1");
            g.draw(0);
            due("T, minus", g.drawnByte(0) + " " + g.drawnByte(1), "84 45");
            due("V, blank", g.drawnByte(2) + " " + g.drawnByte(3), "86 32");
            g.draw(1);
            due("G, plus", g.drawnByte(0) + " " + g.drawnByte(1), "71 43");
        });
        says("Throws `IndexOutOfBoundsException` if there is no such byte", () -> {
            GalleryGuards g = loaded(Probe.SQUARE);
            g.draw(15);
            below(16, g, GalleryGuards::drawnByte);
        });
        says("(always, before the first draw)", () -> {
            below(0, new GalleryGuards(), GalleryGuards::drawnByte);
            below(0, loaded(FULL), GalleryGuards::drawnByte);
            GalleryGuards g = loaded(FULL);
            fails("no row", ARGUMENT, () -> g.draw(16));
            fails("no row", ARGUMENT, () -> g.draw(-1));
            below(0, g, GalleryGuards::drawnByte);
            GalleryGuards h = new GalleryGuards();
            fails("no polygon", STATE, () -> h.draw(0));
            below(0, h, GalleryGuards::drawnByte);
        });
    }
}

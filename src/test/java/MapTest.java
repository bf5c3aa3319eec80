/** Promises 48 and 49: draw, drawnByte. */
public final class MapTest {
    private static String drawn(GalleryGuards g) {
        StringBuilder row = new StringBuilder();
        for (int i = 0; i < 16; i++) {
            row.append((char) g.drawnByte(i));
        }
        return row.toString();
    }

    private static void row(GalleryGuards g, int y, int count, String want) {
        Probe.due("draw(" + y + ")", g.draw(y), count);
        Probe.due("row " + y, drawn(g), (want + "                ").substring(0, 16));
    }

    private static void rows() {
        GalleryGuards g = Probe.loaded(Probe.ELL + ";guard 0 0 range 2;guard 4 1;treasure 0 4 7;treasure 4 0 5");
        row(g, 0, 5, "G+++T");
        row(g, 1, 5, "+V++G");
        row(g, 2, 2, "+-");
        row(g, 3, 2, "--");
        row(g, 4, 2, "TV");
        row(g, 5, 0, "");
        row(g, 15, 0, "");
        row(g, 0, 5, "G+++T");
        GalleryGuards together = Probe.loaded("polygon 15 15 13 15 13 13 15 13;guard 14 14 range 0;treasure 14 14 1");
        row(together, 13, 3, "             V-V");
        row(together, 14, 3, "             -G-");
        row(together, 15, 3, "             V-V");
        // a gap within the row
        GalleryGuards gap = Probe.loaded("polygon 0 0 6 0 6 3 4 3 3 1 2 3 0 3;guard 0 3");
        row(gap, 3, 6, "G+V V-V");
        row(gap, 2, 6, "+++ ---");
    }

    private static void whatStays() {
        GalleryGuards g = new GalleryGuards();
        Probe.fails("draw(0) without a polygon", Probe.STATE, () -> g.draw(0));
        Probe.fails("draw(16) without a polygon", Probe.STATE, () -> g.draw(16));
        Probe.fails("drawnByte(0) before draw", Probe.INDEX, () -> g.drawnByte(0));
        Probe.append(g, Probe.SQUARE);
        g.load(Probe.SQUARE.length());
        int[] odd = {-1, 16, Integer.MIN_VALUE, Integer.MAX_VALUE};
        for (int i : odd) {
            Probe.fails("draw(" + i + ")", Probe.ARGUMENT, () -> g.draw(i));
            Probe.fails("drawnByte(0) before draw", Probe.INDEX, () -> g.drawnByte(0));
        }
        row(g, 1, 3, "---");
        for (int i : odd) {
            Probe.fails("draw(" + i + ")", Probe.ARGUMENT, () -> g.draw(i));
            Probe.fails("drawnByte(" + i + ")", Probe.INDEX, () -> g.drawnByte(i));
        }
        g.addGuard(4, 99);
        g.undo();
        Probe.append(g, Probe.ELL);
        g.load(Probe.ELL.length());
        Probe.due("the text stays until the next draw", drawn(g), "---             ");
        row(g, 1, 5, "-V--V");
    }

    public static void main(String[] args) {
        rows();
        whatStays();
        Probe.end("MapTest");
    }
}

/** Section 3 and promises 24 to 27: triangulation. */
final class TriangleSentences extends Sentences {
    private static final String HEART = "polygon 0 0 6 0 6 6 3 3 0 6";

    TriangleSentences(Document document) {
        super(document);
    }

    @Override
    void all() {
        part("Section 3");
        ears();
        steps();
        colours();
        trianglePromises();
        colourPromises();
    }

    /** The vertices of the triangles in their order, three digits each (a for 10, b for 11). */
    private static String triangles(GalleryGuards g) {
        StringBuilder s = new StringBuilder();
        for (int t = 0; t < g.vertices() - 2; t++) {
            s.append(t == 0 ? "" : " ");
            for (int k = 0; k < 3; k++) {
                s.append(Integer.toHexString(g.triangleVertex(t, k)));
            }
        }
        return s.toString();
    }

    private static String colouring(GalleryGuards g) {
        StringBuilder s = new StringBuilder();
        for (int v = 0; v < g.vertices(); v++) {
            s.append(g.colour(v));
        }
        return s.toString();
    }

    private static void cut(String text, String triangles) {
        due("the triangles of " + text, triangles(loaded(text)), triangles);
    }

    private void ears() {
        says("An ear of a polygon with more than 3 vertices is a vertex at which the angle inside the polygon "
                + "is less than 180 degrees", () -> {
            // vertex 0 has just 180 degrees, in both directions
            cut("polygon 2 0 4 0 0 4 0 0", "012 023");
            cut("polygon 2 0 0 0 0 4 4 0", "012 023");
            // vertex 0 has more, in both directions
            cut("polygon 2 2 0 4 0 0 4 0 4 4", "012 023 034");
            cut("polygon 2 2 4 4 4 0 0 0 0 4", "012 023 034");
            // vertex 0 has less, in both directions
            cut(Probe.SQUARE, "013 123");
            cut("polygon 0 0 0 2 2 2 2 0", "013 123");
        });
        says("and such that the triangle of this vertex and its two neighbours contains no other vertex of the polygon,"
                + " neither inside", () -> {
            // (1, 1) is inside of the triangle of vertex 0, then of that of vertex 1
            cut("polygon 0 0 6 0 1 1 0 6", "012 023");
            cut("polygon 0 6 0 0 6 0 1 1", "013 123");
            cut("polygon 6 0 0 0 0 6 1 1", "013 123");
            cut("polygon 6 6 0 6 0 0 6 0 5 4", "014 124 234");
            // a vertex as near to the triangle as can be, but outside
            cut("polygon 4 1 5 0 4 0 1 2 4 2", "012 023 034");
            cut("polygon 0 7 1 9 0 9 3 11 4 12", "123 013 034");
            cut("polygon 2 2 3 8 4 5 5 1", "013 123");
        });
        says("nor on its boundary.", () -> {
            // (3, 3) is on the side across from vertex 0: with a flat angle there, then with more than 180 degrees
            cut("polygon 0 0 6 0 3 3 0 6", "012 023");
            cut("polygon 0 0 0 6 3 3 6 0", "012 023");
            cut(HEART, "123 013 034");
            // the same from the next vertex on, and in the other direction
            cut("polygon 6 0 6 6 3 3 0 6 0 0", "012 024 234");
            cut("polygon 0 6 3 3 6 6 6 0 0 0", "014 123 134");
            cut("polygon 4 0 4 1 4 2 3 2 0 2", "014 123 134");
        });
    }

    private void steps() {
        says("The triangulation is made step by step: of the ears of the present polygon the one with the smallest "
                + "number is removed;", () -> {
            // vertex 2 is the first ear; without it vertex 1 is one, before the higher numbers
            cut(HEART, "123 013 034");
            // vertex 7 is no ear before 8, 9 and 10 are gone: 9 and 10 lie between its neighbours
            cut(TWELVE, "01b 12b 23b 34b 45b 56b 67b 789 79a 7ab");
            cut(Probe.ELL, "012 023 035 345");
        });
        says("it and its two neighbours are the next triangle.", () -> {
            // vertex 0 is cut first; its neighbours are vertex 1 and the last one
            cut("polygon 0 0 2 0 3 2 1 3 0 2", "014 124 234");
            due("its area", loaded("polygon 0 0 2 0 3 2 1 3 0 2").triangleArea(0), 4);
            // the neighbours are those of the present polygon, not of the first one: after 2 comes 1, beside 3
            cut(HEART, "123 013 034");
        });
        says("When 3 vertices are left, they are the last triangle.", () -> {
            cut(TRIANGLE, "012");
            cut("polygon 0 3 3 0 0 0", "012");
            cut(Probe.SQUARE, "013 123");
            due("the area of the only one", loaded(TRIANGLE).triangleArea(0), 9);
            due("the area of the last of two", loaded(Probe.SQUARE).triangleArea(1), 4);
        });
        says("(There are always ears;", () -> {
            for (String numbers : Shapes.DRAWN) {
                everyWay(numbers, text -> {
                    GalleryGuards g = loaded(text);
                    int sum = 0;
                    for (int t = 0; t < g.vertices() - 2; t++) {
                        sum += g.triangleArea(t);
                        due("triangle " + t + " of " + text + " has an area", g.triangleArea(t) > 0, true);
                    }
                    due("the triangles of " + text + " together", sum, g.doubleArea());
                });
            }
        });
        says("a polygon with n vertices has n - 2 triangles,", () -> {
            below(1, loaded(TRIANGLE), GalleryGuards::triangleArea);
            below(2, loaded(Probe.SQUARE), GalleryGuards::triangleArea);
            below(4, loaded(Probe.ELL), GalleryGuards::triangleArea);
            below(10, loaded(TWELVE), GalleryGuards::triangleArea);
        });
        says("numbered from 0 in this order.)", () -> {
            GalleryGuards g = loaded(HEART);
            due("triangle 0", g.triangleVertex(0, 0), 1);
            due("triangle 1", g.triangleVertex(1, 1), 1);
            due("triangle 2", g.triangleVertex(2, 2), 4);
            due("the last of 10", loaded(TWELVE).triangleVertex(9, 0), 7);
        });
    }

    private void colours() {
        says("Each vertex has one of the colours 0, 1 and 2,", () -> {
            due("triangle", colouring(loaded(TRIANGLE)), "012");
            due("square", colouring(loaded(Probe.SQUARE)), "0102");
            due("ell", colouring(loaded(Probe.ELL)), "012102");
            due("twelve", colouring(loaded(TWELVE)), "010101010202");
        });
        says("such that the vertices of each triangle have three different colours,", () -> {
            for (String numbers : Shapes.DRAWN) {
                everyWay(numbers, text -> {
                    GalleryGuards g = loaded(text);
                    for (int t = 0; t < g.vertices() - 2; t++) {
                        int used = 0;
                        for (int k = 0; k < 3; k++) {
                            used |= 1 << g.colour(g.triangleVertex(t, k));
                        }
                        due("the colours in triangle " + t + " of " + text, used, 7);
                    }
                });
            }
        });
        says("vertex 0 has the colour 0 and vertex 1 the colour 1.", () -> {
            for (String numbers : Shapes.DRAWN) {
                everyWay(numbers, text -> {
                    GalleryGuards g = loaded(text);
                    due("colour(0) of " + text, g.colour(0), 0);
                    due("colour(1) of " + text, g.colour(1), 1);
                });
            }
        });
        says("(There is exactly one such colouring.)", () -> {
            GalleryGuards g = loaded(HEART);
            String found = "";
            for (int code = 0; code < 27; code++) {
                int[] tried = {0, 1, code / 9, code / 3 % 3, code % 3};
                boolean fits = true;
                for (int t = 0; t < 3; t++) {
                    fits &= (1 << tried[g.triangleVertex(t, 0)] | 1 << tried[g.triangleVertex(t, 1)]
                            | 1 << tried[g.triangleVertex(t, 2)]) == 7;
                }
                found += fits ? "01" + tried[2] + tried[3] + tried[4] + " " : "";
            }
            due("the colouring", colouring(g) + " ", found);
        });
    }

    private void trianglePromises() {
        promise(24);
        says("Returns a vertex of a triangle.", () -> {
            cut(HEART, "123 013 034");
            due("the same triangles after other calls", triangles(askedBefore()), "123 013 034");
        });
        says("- `triangle`: number of the triangle",
                () -> below(10, loaded(TWELVE), (g, t) -> g.triangleVertex(t, 0)));
        says("- `k`: 0: the vertex with the smallest number;", () -> {
            due("of 0, 1, 3", loaded(Probe.SQUARE).triangleVertex(0, 0), 0);
            due("of 1, 2, 3", loaded(Probe.SQUARE).triangleVertex(1, 0), 1);
        });
        says("1: the next one;", () -> {
            due("of 0, 1, 3", loaded(Probe.SQUARE).triangleVertex(0, 1), 1);
            due("of 0, 3, 4, cut at 3", loaded(HEART).triangleVertex(2, 1), 3);
        });
        says("2: the one with the greatest number", () -> {
            due("of 0, 1, 3", loaded(Probe.SQUARE).triangleVertex(0, 2), 3);
            due("of 0, 1, 11", loaded(TWELVE).triangleVertex(0, 2), 11);
        });
        says("Returns the number of the vertex.", () -> due("the last one", loaded(TWELVE).triangleVertex(9, 2), 11));
        says(NO_POLYGON, () -> noPolygon(g -> g.triangleVertex(0, 0), g -> g.triangleVertex(-1, 0),
                g -> g.triangleVertex(0, 3), g -> g.triangleVertex(10, -1)));
        says("Throws `IndexOutOfBoundsException` if there is no such triangle", () -> {
            below(1, loaded(TRIANGLE), (g, t) -> g.triangleVertex(t, 2));
            below(4, loaded(Probe.ELL), (g, t) -> g.triangleVertex(t, 2));
            // listed before the exception for k
            GalleryGuards g = loaded(TRIANGLE);
            fails("both are wrong", INDEX, () -> g.triangleVertex(1, 3));
            fails("both are wrong", INDEX, () -> g.triangleVertex(-1, -1));
        });
        says("Throws `IllegalArgumentException` if k is out of range", () -> {
            outside(0, 2, loaded(TRIANGLE), (g, k) -> g.triangleVertex(0, k));
            outside(0, 2, loaded(TWELVE), (g, k) -> g.triangleVertex(9, k));
        });
        promise(25);
        says("Returns twice the area of a triangle.", () -> {
            GalleryGuards g = loaded(Probe.ELL);
            int[] areas = {4, 3, 4, 3};
            for (int t = 0; t < 4; t++) {
                due("triangleArea(" + t + ")", g.triangleArea(t), areas[t]);
            }
        });
        says("- `triangle`: number of the triangle", () -> below(10, loaded(TWELVE), GalleryGuards::triangleArea));
        says("Returns twice the area, positive.", () -> {
            due("the smallest one", loaded("polygon 14 15 15 15 15 14").triangleArea(0), 1);
            due("the smallest one, turned", loaded("polygon 15 14 15 15 14 15").triangleArea(0), 1);
        });
        says(NO_POLYGON, () -> noPolygon(g -> g.triangleArea(0), g -> g.triangleArea(-1), g -> g.triangleArea(10)));
        says("Throws `IndexOutOfBoundsException` if there is no such triangle", () -> {
            below(1, loaded(TRIANGLE), GalleryGuards::triangleArea);
            below(4, loaded(Probe.ELL), GalleryGuards::triangleArea);
        });
    }

    /** The heart, after calls that worked on other polygons. */
    private static GalleryGuards askedBefore() {
        GalleryGuards g = loaded(TWELVE);
        triangles(g);
        reload(g, HEART);
        triangles(g);
        g.deleteVertex(3);
        triangles(g);
        g.undo();
        return g;
    }

    private void colourPromises() {
        promise(26);
        says("Returns the colour of a vertex.", () -> {
            due("heart", colouring(loaded(HEART)), "01021");
            due("heart, after other calls", colouring(askedBefore()), "01021");
        });
        says(VERTEX, () -> below(12, loaded(TWELVE), GalleryGuards::colour));
        says("Returns 0 to 2.", () -> due("all three", colouring(loaded(TRIANGLE)), "012"));
        says(NO_POLYGON, () -> noPolygon(g -> g.colour(0), g -> g.colour(-1), g -> g.colour(12)));
        says(NO_VERTEX, () -> {
            below(3, loaded(TRIANGLE), GalleryGuards::colour);
            below(6, loaded(Probe.ELL), GalleryGuards::colour);
        });
        promise(27);
        says("Returns the vertices of the colour that the fewest vertices have,", () -> {
            due("colour 0 of three", loaded("polygon 2 2 0 4 0 0 4 0 4 4").colourGuards(), 1);
            due("colour 1 of 0102", loaded(Probe.SQUARE).colourGuards(), 1 << 1);
            due("colour 2 of 01021", loaded(HEART).colourGuards(), 1 << 3);
        });
        says("of several the smallest colour.", () -> {
            due("012", loaded(TRIANGLE).colourGuards(), 1);
            due("0102: 1 and 2 have as few", loaded(Probe.SQUARE).colourGuards(), 1 << 1);
            due("012102", loaded(Probe.ELL).colourGuards(), 1 << 0 | 1 << 4);
            due("0121: 0 and 2 have as few", loaded("polygon 2 0 4 0 0 4 0 0").colourGuards(), 1);
        });
        says("Returns the set of vertices.", () -> due("vertices 9 and 11", loaded(TWELVE).colourGuards(), 0xa00));
        says(NO_POLYGON, () -> noPolygon(GalleryGuards::colourGuards));
    }
}

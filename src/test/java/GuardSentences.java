/** Section 4 and promises 35 to 47: the present guards and the treasures. */
final class GuardSentences extends Sentences {
    private static final String SIX_GUARDS = Probe.SQUARE + ";guard 0 0 range 0;guard 1 0 range 1;guard 2 0 range 2"
            + ";guard 0 1 range 98;guard 1 1 range 99;guard 2 1";
    private static final String SIX_TREASURES = Probe.SQUARE + ";treasure 0 0 1;treasure 1 0 20;treasure 2 0 300"
            + ";treasure 0 1 999;treasure 1 1 5;treasure 2 1 6";
    private static final String NO_TREASURE = "Throws `IndexOutOfBoundsException` if there is no such treasure";

    GuardSentences(Document document) {
        super(document);
    }

    @Override
    void all() {
        part("Section 4");
        guards();
        treasures();
        placePromises();
        watchPromises();
        countPromises();
        bestPromises();
        treasurePromises();
    }

    private void guards() {
        says("There are up to 6 guards,", () -> {
            due("none", loaded(Probe.SQUARE).guards(), 0);
            due("6", loaded(SIX_GUARDS).guards(), 6);
            Probe.refused(SIX_GUARDS + ";guard 0 0", 5, SIX_GUARDS.length() + 1);
            GalleryGuards g = loaded(Probe.SQUARE);
            for (int i = 0; i < 6; i++) {
                due("addGuard", g.addGuard(8, 1), i);
            }
            leavesAll(g, STATE, () -> g.addGuard(8, 1));
        });
        says("numbered from 0, each at a point,", () -> {
            GalleryGuards g = loaded(SIX_GUARDS);
            for (int i = 0; i < 6; i++) {
                due("guardAt(" + i + ")", g.guardAt(i), i);
            }
            Probe.refused(Probe.SQUARE + ";guard 3 0", 4, 32);
            Probe.refused(Probe.ELL + ";guard 2 2", 4, 40);
        });
        says("with a range from 0 to 99.", () -> {
            GalleryGuards g = loaded(SIX_GUARDS);
            int[] ranges = {0, 1, 2, 98, 99, 99};
            for (int i = 0; i < 6; i++) {
                due("guardRange(" + i + ")", g.guardRange(i), ranges[i]);
            }
            Probe.refused(Probe.SQUARE + ";guard 0 0 range 100", 2, 40);
            outside(0, 99, loaded(Probe.SQUARE), (h, range) -> h.addGuard(0, range));
            outside(0, 99, g, (h, range) -> h.setRange(0, range));
        });
        says("A guard watches a point if its point sees it", () -> {
            // near enough, but behind the wall
            GalleryGuards g = loaded(Probe.YOU + ";guard 1 3 range 1;guard 1 3 range 99");
            due("within 1", g.watched(0), set(9, 12, 13));
            due("within 99", g.watched(1), g.visible(13));
        });
        says("and the squared distance is at most the square of the range.", () -> {
            // 25 at (3, 4), (4, 3), (5, 0) and (0, 5); 26 at (5, 1) and (1, 5)
            GalleryGuards g = loaded(FULL + ";guard 0 0 range 5;guard 0 0 range 0;guard 0 0 range 1;guard 0 0 range 9"
                    + ";guard 0 0 range 10");
            int[][] places = {{3, 4, 1}, {4, 3, 1}, {5, 0, 1}, {0, 5, 1}, {5, 1, 0}, {1, 5, 0}, {4, 4, 0}, {6, 0, 0}};
            for (int[] place : places) {
                boolean watched = has(g.watched(0), at(g, place[0], place[1]));
                due("(" + place[0] + ", " + place[1] + ")", watched, place[2] == 1);
            }
            due("the range 0", g.watched(1), 1);
            due("the range 1", g.watched(2), set(0, 1, 8));
            // 98 at (7, 7) is more than 81
            due("the range 9", has(g.watched(3), 63), false);
            due("the range 10", g.watched(4), -1L);
            // the farthest two points there can be
            GalleryGuards far = loaded("polygon 0 0 15 15 14 15;guard 0 0 range 21;guard 0 0 range 22;guard 15 15");
            due("450 and the range 21", has(far.watched(0), at(far, 15, 15)), false);
            due("450 and the range 22", has(far.watched(1), at(far, 15, 15)), true);
            due("the range 99", has(far.watched(2), at(far, 0, 0)), true);
        });
        says("Several guards may be at the same point.", () -> {
            GalleryGuards g = loaded(Probe.SQUARE + ";guard 1 1".repeat(5));
            due("guards()", g.guards(), 5);
            due("addGuard(4, 3)", g.addGuard(4, 3), 5);
            for (int i = 0; i < 6; i++) {
                due("guardAt(" + i + ")", g.guardAt(i), 4);
            }
            g.moveGuard(0, 0);
            due("moved back to the others", g.moveGuard(0, 4), 0);
            due("watchers(4)", g.watchers(4), 6);
        });
    }

    private void treasures() {
        says("There are up to 6 treasures,", () -> {
            due("none", loaded(Probe.SQUARE).treasures(), 0);
            due("6", loaded(SIX_TREASURES).treasures(), 6);
            Probe.refused(SIX_TREASURES + ";treasure 0 0 1", 5, SIX_TREASURES.length() + 1);
            // 6 guards leave room for 6 treasures
            due("6 of both", loaded(SIX_GUARDS + ";treasure 0 0 5".repeat(6)).treasures(), 6);
        });
        says("each at a point,", () -> {
            GalleryGuards g = loaded(SIX_TREASURES);
            for (int i = 0; i < 6; i++) {
                due("treasureAt(" + i + ")", g.treasureAt(i), i);
            }
            Probe.refused(Probe.SQUARE + ";treasure 0 3 5", 4, 35);
        });
        says("with a value;", () -> {
            GalleryGuards g = loaded(SIX_TREASURES);
            int[] values = {1, 20, 300, 999, 5, 6};
            for (int i = 0; i < 6; i++) {
                g.addGuard(i, 0);
                due("the value of treasure " + i, g.watchedValue(), values[i]);
                g.removeGuard(0);
            }
        });
        says("several may be at the same point.", () -> {
            GalleryGuards g = loaded(Probe.SQUARE + ";guard 1 1 range 0" + ";treasure 1 1 999".repeat(6));
            due("treasures()", g.treasures(), 6);
            due("treasureAt(5)", g.treasureAt(5), 4);
            due("watchedValue()", g.watchedValue(), 5994);
        });
    }

    private void placePromises() {
        promise(35);
        says("Returns the number of guards;", () -> {
            GalleryGuards g = loaded(SIX_GUARDS);
            due("6", g.guards(), 6);
            g.removeGuard(0);
            due("5", g.guards(), 5);
            due("none", loaded(Probe.SQUARE + ";treasure 0 0 1").guards(), 0);
        });
        says("0 if there is no polygon.", () -> {
            GalleryGuards g = new GalleryGuards();
            due("new", g.guards(), 0);
            Probe.refusedBy(g, Probe.SQUARE + ";guard 0 0;guard 3 3", 4, 42);
            due("after a refused text", g.guards(), 0);
        });
        promise(36);
        says("Returns the point of a guard.", () -> {
            GalleryGuards g = loaded(Probe.ELL + ";guard 1 4;guard 0 0;guard 4 1");
            due("guardAt(0)", g.guardAt(0), 15);
            due("guardAt(1)", g.guardAt(1), 0);
            due("guardAt(2)", g.guardAt(2), 9);
        });
        says(GUARD, () -> below(6, loaded(SIX_GUARDS), GalleryGuards::guardAt));
        says("Returns the number of the point.", () -> due("guardAt(0)", loaded(FULL + ";guard 7 7").guardAt(0), 63));
        says(NO_POLYGON, () -> noPolygon(g -> g.guardAt(0), g -> g.guardAt(-1), g -> g.guardAt(6)));
        says(NO_GUARD, () -> {
            below(0, loaded(Probe.SQUARE), GalleryGuards::guardAt);
            below(1, loaded(Probe.SQUARE + ";guard 1 1"), GalleryGuards::guardAt);
        });
        promise(37);
        says("Returns the range of a guard.", () -> {
            GalleryGuards g = loaded(Probe.ELL + ";guard 1 4 range 7;guard 0 0;guard 4 1 range 0");
            due("guardRange(0)", g.guardRange(0), 7);
            due("guardRange(1)", g.guardRange(1), 99);
            due("guardRange(2)", g.guardRange(2), 0);
        });
        says(GUARD, () -> below(6, loaded(SIX_GUARDS), GalleryGuards::guardRange));
        says("Returns the range.", () -> {
            GalleryGuards g = loaded(Probe.SQUARE);
            g.addGuard(0, 0);
            g.addGuard(0, 99);
            due("the least", g.guardRange(0), 0);
            due("the greatest", g.guardRange(1), 99);
        });
        says(NO_POLYGON, () -> noPolygon(g -> g.guardRange(0), g -> g.guardRange(-1), g -> g.guardRange(6)));
        says(NO_GUARD, () -> {
            below(0, loaded(Probe.SQUARE), GalleryGuards::guardRange);
            below(1, loaded(Probe.SQUARE + ";guard 1 1"), GalleryGuards::guardRange);
        });
    }

    private void watchPromises() {
        promise(38);
        says("Returns the points that a guard watches.", () -> {
            GalleryGuards g = loaded(Probe.ELL + ";guard 0 0 range 2;guard 4 1;guard 1 4 range 0");
            due("watched(0)", g.watched(0), set(0, 1, 2, 5, 6, 10));
            due("watched(1)", g.watched(1), 1023);
            due("watched(2)", g.watched(2), 1 << 15);
        });
        says(GUARD, () -> below(6, loaded(SIX_GUARDS), GalleryGuards::watched));
        says("Returns the set of points.", () -> due("64 points", loaded(FULL + ";guard 7 7").watched(0), -1L));
        says(NO_POLYGON, () -> noPolygon(g -> g.watched(0), g -> g.watched(-1), g -> g.watched(6)));
        says(NO_GUARD, () -> {
            below(0, loaded(Probe.SQUARE), GalleryGuards::watched);
            below(1, loaded(Probe.SQUARE + ";guard 1 1"), GalleryGuards::watched);
        });
        promise(39);
        says("Returns the points that no guard watches.", () -> {
            due("without guards", loaded(Probe.ELL).unwatched(), 65535);
            due("all are watched", loaded(Probe.ELL + ";guard 1 1").unwatched(), 0);
            due("two guards", loaded(Probe.ELL + ";guard 0 0 range 2;guard 4 1").unwatched(), 0xf800);
        });
        says("Returns the set of points.", () -> {
            due("64 points", loaded(FULL).unwatched(), -1L);
            due("all but point 63", loaded(FULL + ";guard 7 7 range 0").unwatched(), Long.MAX_VALUE);
        });
        says(NO_POLYGON, () -> noPolygon(GalleryGuards::unwatched));
    }

    private void countPromises() {
        promise(40);
        says("Counts the guards that watch a point.", () -> {
            GalleryGuards g = loaded(Probe.ELL + ";guard 0 0 range 2;guard 4 1");
            int[] counts = {2, 2, 2, 1, 1, 2, 2, 1, 1, 1, 1, 0, 0, 0, 0, 0};
            for (int p = 0; p < 16; p++) {
                due("watchers(" + p + ")", g.watchers(p), counts[p]);
            }
        });
        says(POINT, () -> below(64, loaded(FULL + ";guard 0 0"), GalleryGuards::watchers));
        says("Returns the number of guards.", () -> {
            due("none", loaded(FULL).watchers(63), 0);
            due("6", loaded(FULL + ";guard 7 7 range 0".repeat(6)).watchers(63), 6);
        });
        says(NO_POLYGON, () -> noPolygon(g -> g.watchers(0), g -> g.watchers(-1), g -> g.watchers(64)));
        says(NO_POINT, () -> {
            below(16, loaded(Probe.ELL), GalleryGuards::watchers);
            below(16, loaded(Probe.ELL + ";guard 0 0"), GalleryGuards::watchers);
        });
        promise(41);
        says("Returns the guards without which, one at a time, no point that is watched now would be unwatched.",
                () -> {
            // each of the two can go, though not both
            due("two of a kind", loaded(Probe.SQUARE + ";guard 1 1;guard 1 1").redundantGuards(), 3);
            due("one within another",
                    loaded(Probe.SQUARE + ";guard 0 0 range 1;guard 0 0 range 2").redundantGuards(), 1);
            due("a guard alone", loaded(Probe.SQUARE + ";guard 1 1 range 0").redundantGuards(), 0);
            // points that are unwatched anyway do not count
            due("much is unwatched", loaded(FULL + ";guard 0 0 range 0;guard 0 0 range 0").redundantGuards(), 3);
            due("covered by two others together",
                    loaded(Probe.ELL + ";guard 4 1;guard 1 4;guard 0 0").redundantGuards(), 7);
            // (4, 0) and (1, 4) are watched by one guard each
            due("the middle one of three",
                    loaded(Probe.ELL + ";guard 4 0 range 1;guard 0 0 range 3;guard 1 1 range 3").redundantGuards(), 2);
        });
        says("Returns the set of guards.", () -> {
            due("no guards", loaded(Probe.SQUARE).redundantGuards(), 0);
            due("guard 5", loaded(Probe.SQUARE + ";guard 1 1".repeat(6)).redundantGuards(), 63);
        });
        says(NO_POLYGON, () -> noPolygon(GalleryGuards::redundantGuards));
    }

    private void bestPromises() {
        promise(42);
        says("Finds the point that sees the most unwatched points.", () -> {
            due("no guards", loaded(Probe.YOU).bestPoint(), 1);
            due("an arm is watched", loaded(Probe.YOU + ";guard 0 3").bestPoint(), 2);
            // the last point alone is unwatched, and seen from (0, 0) first
            due("it sees, whatever its range", loaded(FULL + ";guard 0 0 range 9").bestPoint(), 0);
            // what is left is the inner end, which (2, 4) sees into
            due("a spiral's end", loaded(SPIRAL + ";guard 0 0;guard 9 0;guard 9 7;guard 2 7").bestPoint(), 24);
        });
        says("Returns the number of the point, of several the smallest one.", () -> {
            due("each point sees all", loaded(FULL).bestPoint(), 0);
            due("the last of 64 alone does", loaded("polygon " + Shapes.LAST_SEES_ALL).bestPoint(), 63);
            due("all are watched", loaded(FULL + ";guard 3 3").bestPoint(), 0);
            due("2, 3, 6 and 7 see as many", loaded(Probe.YOU + ";guard 0 3").bestPoint(), 2);
        });
        says(NO_POLYGON, () -> noPolygon(GalleryGuards::bestPoint));
        promise(43);
        says("Returns how many guards would be added if guards with the range 99 were put at the point of bestPoint, "
                + "again and again, until all points are watched", () -> {
            due("you", loaded(Probe.YOU).greedyGuards(), 2);
            due("an arm is watched", loaded(Probe.YOU + ";guard 0 3").greedyGuards(), 1);
            for (String numbers : Shapes.DRAWN) {
                GalleryGuards g = loaded("polygon " + numbers);
                int due = g.greedyGuards();
                int added = 0;
                while (g.unwatched() != 0 && added < 6) {
                    g.addGuard(g.bestPoint(), 99);
                    added++;
                    due("what is left to do in " + numbers, g.greedyGuards(), due - added);
                }
                due("the guards added in " + numbers, added, due);
            }
        });
        says("(whatever the number of guards may be).", () -> {
            GalleryGuards g = loaded(Probe.COMB + ";guard 0 0 range 0".repeat(6));
            due("on top of 6", g.greedyGuards(), loaded(Probe.COMB).greedyGuards());
            due("it adds none", g.guards(), 6);
            due("it is no change", g.undoable(), 0);
        });
        says("Returns the number of guards, 0 or more.", () -> {
            due("all are watched", loaded(FULL + ";guard 3 3").greedyGuards(), 0);
            due("one is enough", loaded(FULL).greedyGuards(), 1);
            due("comb", loaded(Probe.COMB).greedyGuards(), 4);
        });
        says(NO_POLYGON, () -> noPolygon(GalleryGuards::greedyGuards));
    }

    private void treasurePromises() {
        promise(44);
        says("Returns the number of treasures;", () -> {
            due("6", loaded(SIX_TREASURES).treasures(), 6);
            due("1", loaded(Probe.SQUARE + ";treasure 0 0 1;guard 0 0").treasures(), 1);
            due("none", loaded(Probe.SQUARE + ";guard 0 0").treasures(), 0);
        });
        says("0 if there is no polygon.", () -> {
            GalleryGuards g = new GalleryGuards();
            due("new", g.treasures(), 0);
            Probe.refusedBy(g, Probe.SQUARE + ";treasure 0 0 1;guard 3 3", 4, 47);
            due("after a refused text", g.treasures(), 0);
        });
        promise(45);
        says("Returns the point of a treasure.", () -> {
            due("treasureAt(0)", loaded(Probe.ELL + ";treasure 1 4 1").treasureAt(0), 15);
            due("treasureAt(0)", loaded(FULL + ";treasure 7 7 999").treasureAt(0), 63);
        });
        says("- `treasure`: number of the treasure,", () -> below(6, loaded(SIX_TREASURES), GalleryGuards::treasureAt));
        says("in the order of the text", () -> {
            GalleryGuards g = loaded(Probe.ELL + ";treasure 1 4 1;guard 2 0;treasure 0 0 5;guard 2 0;treasure 4 1 9");
            due("treasureAt(0)", g.treasureAt(0), 15);
            due("treasureAt(1)", g.treasureAt(1), 0);
            due("treasureAt(2)", g.treasureAt(2), 9);
        });
        says("Returns the number of the point.", () -> {
            GalleryGuards g = loaded(Probe.SQUARE + ";treasure 2 2 5");
            due("before", g.treasureAt(0), 8);
            g.moveVertex(0, 1, 1);
            due("numbered anew", g.treasureAt(0), 5);
        });
        says(NO_POLYGON, () -> noPolygon(g -> g.treasureAt(0), g -> g.treasureAt(-1), g -> g.treasureAt(6)));
        says(NO_TREASURE, () -> {
            below(0, loaded(Probe.SQUARE + ";guard 0 0"), GalleryGuards::treasureAt);
            below(1, loaded(Probe.SQUARE + ";treasure 1 1 1"), GalleryGuards::treasureAt);
        });
        promise(46);
        says("Returns the sum of the values of all treasures whose points are watched.", () -> {
            String text = Probe.YOU + ";treasure 0 0 1;treasure 0 0 20;treasure 3 0 300;treasure 1 2 999";
            due("no guards", loaded(text).watchedValue(), 0);
            due("the left arm", loaded(text + ";guard 0 3").watchedValue(), 1020);
            due("each counts once", loaded(text + ";guard 0 3;guard 0 3").watchedValue(), 1020);
            due("all", loaded(text + ";guard 0 3;guard 3 0").watchedValue(), 1320);
        });
        says("Returns the sum.", () -> {
            due("no treasures", loaded(FULL + ";guard 0 0").watchedValue(), 0);
            due("the most", loaded(FULL + ";guard 0 0" + ";treasure 7 7 999".repeat(6)).watchedValue(), 5994);
        });
        says(NO_POLYGON, () -> noPolygon(GalleryGuards::watchedValue));
        bestValue();
    }

    private void bestValue() {
        promise(47);
        says("Returns the greatest watchedValue that is possible if one guard is moved to another point", () -> {
            String text = Probe.YOU + ";treasure 0 0 1;treasure 3 0 300;treasure 3 3 50;treasure 0 3 7";
            due("to the other arm", loaded(text + ";guard 0 3").bestValue(), 351);
            // one of the two moves, not both
            due("one of two", loaded(text + ";guard 1 1 range 0;guard 2 1 range 0").bestValue(), 300);
            due("the better one of two", loaded(text + ";guard 0 3 range 0;guard 3 3 range 0").bestValue(), 350);
            GalleryGuards full = loaded(FULL + ";treasure 7 7 999;guard 0 0 range 0");
            due("to point 63", full.bestValue(), 999);
            due("to point 0", loaded(FULL + ";treasure 0 0 999;guard 7 7 range 0").bestValue(), 999);
            due("the guard itself is not moved", full.guardAt(0), 0);
            due("it is no change", full.undoable(), 0);
        });
        says("or stays,", () -> {
            String text = Probe.SQUARE + ";guard 1 1 range 1;treasure 1 1 3;treasure 0 1 4;treasure 2 1 5";
            due("it is best where it is", loaded(text).bestValue(), 12);
            due("all is watched", loaded(text + ";guard 0 0").bestValue(), 12);
        });
        says("with its range.", () -> {
            String text = FULL + ";treasure 0 0 3;treasure 7 7 5;treasure 7 6 6";
            due("the range 0", loaded(text + ";guard 3 3 range 0").bestValue(), 6);
            due("the range 1", loaded(text + ";guard 3 3 range 1").bestValue(), 11);
            due("the range 99", loaded(text + ";guard 3 3").bestValue(), 14);
            // the one with the range 1 is the one to move
            due("two ranges", loaded(text + ";guard 3 3 range 0;guard 3 4 range 1").bestValue(), 11);
        });
        says("Returns the sum;", () -> {
            due("no treasures", loaded(FULL + ";guard 0 0").bestValue(), 0);
            due("the most", loaded(FULL + ";guard 0 0 range 0" + ";treasure 7 7 999".repeat(6)).bestValue(), 5994);
        });
        says("the present one without guards.", () -> {
            due("no guards", loaded(FULL + ";treasure 7 7 999").bestValue(), 0);
            due("no guards and no treasures", loaded(FULL).bestValue(), 0);
        });
        says(NO_POLYGON, () -> noPolygon(GalleryGuards::bestValue));
    }
}

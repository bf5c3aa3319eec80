import java.util.Arrays;

/** Section 5 and promises 1 to 6: the input buffer and the text format. */
final class TextSentences extends Sentences {
    private static final int BLANK_WORD = 0x20202020;
    private static final String THREE = "polygon 0 0 2 0 2 2";
    private static final int[] SOME_BYTES = {0, 9, 10, 13, 31, 33, 47, 58, 60, 64, 65, 90, 96, 123, 127, 128, 160, 255};

    TextSentences(Document document) {
        super(document);
    }

    @Override
    void all() {
        part("Section 5");
        tokens();
        runs();
        grammar();
        bounds();
        firstError();
        errorOne();
        errorTwoToFive();
        newObject();
        append();
        load();
        loadErrors();
        latestError();
    }

    // ---- section 5

    private void tokens() {
        says("The input buffer holds at most 600 bytes.", () -> {
            GalleryGuards g = new GalleryGuards();
            String line = ";treasure 1 1 999";
            String text = Probe.SQUARE + " ".repeat(600 - Probe.SQUARE.length() - line.length()) + line;
            due("600 bytes", Probe.append(g, text), 600);
            due("20 more", g.append(BLANK_WORD, BLANK_WORD, BLANK_WORD, BLANK_WORD, BLANK_WORD), -1);
            due("buffered()", g.buffered(), 600);
            due("all of them are parsed", g.load(600), 9);
            g.addGuard(4, 0);
            due("to the last one", g.watchedValue(), 999);
        });
        says("Tokens are words (1 to 8 lower-case letters),", () -> {
            // 8 letters, 7, and 5
            Probe.accepted(THREE + ";treasure 1 1 5", 6);
            Probe.accepted(THREE + ";guard 1 1 range 5", 6);
            // tokens, though not these
            Probe.refused("p", 1, 0);
            Probe.refused(THREE + ";g 1 1", 1, 20);
            Probe.refused(THREE + ";treasury 1 1 5", 1, 20);
            // a and z are letters: else the word would end before them
            Probe.refused("polygona 0 0 2 0 2 2", 1, 0);
            Probe.refused("polygonz 0 0 2 0 2 2", 1, 0);
            // upper-case letters are none
            Probe.refused("Polygon 0 0 2 0 2 2", 1, 0);
            Probe.refused("polygoN 0 0 2 0 2 2", 1, 0);
            Probe.refused("polygonS 0 0 2 0 2 2", 1, 7);
        });
        says("numbers (1 to 4 digits)", () -> {
            Probe.accepted("polygon 0 00 002 0000 0002 2", 6);
            due("0015", loaded("polygon 0000 0000 0015 0015 0014 0015").vertexX(1), 15);
            Probe.refused("polygon 0 00 00002 0 2 2", 1, 13);
            // 9 is a digit
            due("9", loaded("polygon 9 9 8 9 9 8").vertexX(0), 9);
        });
        says("and the semicolon.", () -> {
            Probe.accepted(THREE + ";guard 1 1", 6);
            Probe.refused(THREE + ":guard 1 1", 1, 19);
            Probe.refused(THREE + ",guard 1 1", 1, 19);
            // each one is a token of its own
            Probe.refused(THREE + ";;guard 1 1", 1, 20);
        });
        says("Blanks (byte 32) only separate tokens.", () -> {
            Probe.accepted("   polygon   0 0   2 0 2   2   ;   guard   1   1   range   5   ", 6);
            Probe.accepted("polygon0 0 2 0 2 2;guard1 1range5;treasure1 1 5", 6);
            // within a word, within a number
            Probe.refused("poly gon 0 0 2 0 2 2", 1, 0);
            due("1 5 is no 15", loaded("polygon 0 0 1 5 1 6").vertexX(1), 1);
            for (int other : SOME_BYTES) {
                Probe.refused("polygon" + (char) other + "0 0 2 0 2 2", 1, 7);
                Probe.refused(THREE + (char) other, 1, 19);
            }
        });
    }

    private void runs() {
        says("A run of letters ends at the first byte that is not a lower-case letter;", () -> {
            Probe.accepted("polygon0 0 2 0 2 2;guard1 1 range5", 6);
            Probe.refused("polygon;", 1, 7);
            // the bytes next to a and z, and one above 127
            Probe.refused("polygon`0 0 2 0 2 2", 1, 7);
            Probe.refused("polygon{0 0 2 0 2 2", 1, 7);
            Probe.refused("polygon\u00e90 0 2 0 2 2", 1, 7);
            // 8 letters and a ninth byte that is none
            Probe.accepted(THREE + ";treasure1 1 5", 6);
            // the end of the text ends it too
            GalleryGuards g = new GalleryGuards();
            Probe.append(g, "polygons");
            fails("load(7)", ARGUMENT, () -> g.load(7));
            due("the word was right", g.errorPosition(), 7);
        });
        says("a run of digits ends at the first byte that is not a digit.", () -> {
            Probe.accepted(THREE + ";guard 1 1range5;treasure 1 1 5;guard 1 1", 6);
            Probe.refused(THREE + "range 5", 1, 19);
            // the bytes next to 0 and 9
            Probe.refused(THREE + "/", 1, 19);
            Probe.refused(THREE + ":", 1, 19);
            // 4 digits and a fifth byte that is none
            Probe.accepted("polygon 0 0 2 0 2 0002;guard 1 1", 6);
            // the end of the text ends it too
            GalleryGuards g = new GalleryGuards();
            Probe.append(g, "polygon 13 15 15 15 15 14");
            due("load(24)", g.load(24), 24);
            due("the last number is 1", g.vertexY(2), 1);
        });
    }

    private void grammar() {
        says("The grammar, with literals in quotes:", () -> {
            Probe.accepted(THREE, 6);
            Probe.refused("polyline 0 0 2 0 2 2", 1, 0);
            Probe.refused("\"polygon\" 0 0 2 0 2 2", 1, 0);
            Probe.refused(THREE + "\";\" guard 1 1", 1, 19);
            // each letter of each literal
            oneLetterOff("", "polygon", " 0 0 2 0 2 2");
            oneLetterOff(THREE + ";", "guard", " 1 1");
            oneLetterOff(THREE + ";", "treasure", " 1 1 5");
            oneLetterOff(THREE + ";guard 1 1 ", "range", " 5");
        });
        says("text = \"polygon\" X Y X Y X Y {X Y} {\";\" line}", () -> {
            Probe.refused("0 0 2 0 2 2", 1, 0);
            Probe.refused("polygon polygon 0 0 2 0 2 2", 1, 8);
            Probe.refused("polygon 0 0 2 0", 1, 15);
            Probe.accepted(THREE, 6);
            Probe.refused(THREE + " 0", 1, 21);
            Probe.refused(THREE + " 0;guard 1 1", 1, 21);
            Probe.accepted(THREE + " 0 2", 9);
            Probe.accepted(TWELVE, 25);
            Probe.refused(THREE + " guard 1 1", 1, 20);
            Probe.refused(THREE + ";", 1, 20);
            Probe.refused(THREE + ";1 1", 1, 20);
            Probe.refused(THREE + ";guard 1 1;", 1, 30);
            Probe.refused(THREE + ";guard 1 1 guard 1 1", 1, 30);
            Probe.refused(THREE + ";" + THREE, 1, 20);
            // lines of both kinds in any order, as many as there may be
            String text = THREE;
            for (int i = 0; i < 6; i++) {
                text += i % 2 == 0 ? ";guard 1 1;treasure 1 1 5" : ";treasure 1 1 5;guard 1 1";
            }
            Probe.accepted(text, 6);
            due("the guards", loaded(text).guards(), 6);
            due("the treasures", loaded(text).treasures(), 6);
        });
        says("line = \"guard\" X Y [\"range\" RANGE]", () -> {
            Probe.accepted(THREE + ";guard 1 1", 6);
            Probe.accepted(THREE + ";guard 1 1 range 5", 6);
            Probe.refused(THREE + ";guard", 1, 25);
            Probe.refused(THREE + ";guard range 5", 1, 26);
            Probe.refused(THREE + ";guard 1", 1, 27);
            Probe.refused(THREE + ";guard 1 range 5", 1, 28);
            Probe.refused(THREE + ";guard 1 1 5", 1, 30);
            Probe.refused(THREE + ";guard 1 1 rang 5", 1, 30);
            Probe.refused(THREE + ";guard 1 1 range", 1, 35);
            Probe.refused(THREE + ";guard 1 1 range;guard 1 1", 1, 35);
            Probe.refused(THREE + ";guard 1 1 range 5 5", 1, 38);
            Probe.refused(THREE + ";guard 1 1 range 5 range 5", 1, 38);
        });
        says("line = \"treasure\" X Y VALUE", () -> {
            Probe.accepted(THREE + ";treasure 1 1 5", 6);
            Probe.refused(THREE + ";treasure", 1, 28);
            Probe.refused(THREE + ";treasure 1", 1, 30);
            Probe.refused(THREE + ";treasure 1 1", 1, 32);
            Probe.refused(THREE + ";treasure 1 1;guard 1 1", 1, 32);
            Probe.refused(THREE + ";treasure 1 1 range 5", 1, 33);
            Probe.refused(THREE + ";treasure 1 1 5 5", 1, 35);
            Probe.refused(THREE + ";treasure 1 1 5 range 5", 1, 35);
        });
    }

    private static void oneLetterOff(String before, String word, String behind) {
        Probe.accepted(before + word + behind, 6);
        for (int i = 0; i < word.length(); i++) {
            String other = word.substring(0, i) + (char) (word.charAt(i) + 1) + word.substring(i + 1);
            Probe.refused(before + other + behind, 1, before.length());
            Probe.refused(before + word.substring(0, i) + word.substring(i + 1) + behind, 1, before.length());
        }
    }

    private void bounds() {
        says("X and Y are 0 to 15,", () -> {
            Probe.accepted("polygon 0 0 15 15 14 15;guard 0 0;guard 15 15;treasure 0 0 5;treasure 15 15 5", 17);
            Probe.refused("polygon 16 0 2 0 2 2", 2, 8);
            Probe.refused("polygon 0 16 2 0 2 2", 2, 10);
            Probe.refused("polygon 0 0 2 0 2 16", 2, 18);
            Probe.refused(THREE + ";guard 16 1", 2, 26);
            Probe.refused(THREE + ";guard 1 16", 2, 28);
            Probe.refused(THREE + ";treasure 16 1 5", 2, 29);
            Probe.refused(THREE + ";treasure 1 16 5", 2, 31);
        });
        says("RANGE 0 to 99", () -> {
            GalleryGuards g = loaded(THREE + ";guard 1 1 range 0;guard 1 1 range 99;guard 1 1 range 0099");
            due("0", g.guardRange(0), 0);
            due("99", g.guardRange(1), 99);
            due("0099", g.guardRange(2), 99);
            Probe.refused(THREE + ";guard 1 1 range 100", 2, 36);
            Probe.refused(THREE + ";guard 1 1 range 9999", 2, 36);
        });
        says("(99 without it),", () -> {
            GalleryGuards g = loaded(THREE + ";guard 1 1;guard 1 1 range 3;guard 1 1");
            due("before another", g.guardRange(0), 99);
            due("behind another", g.guardRange(2), 99);
        });
        says("VALUE 1 to 999.", () -> {
            due("1", loaded(THREE + ";treasure 1 1 1;guard 1 1").watchedValue(), 1);
            due("999", loaded(THREE + ";treasure 1 1 999;guard 1 1").watchedValue(), 999);
            due("0999", loaded(THREE + ";treasure 1 1 0999;guard 1 1").watchedValue(), 999);
            Probe.refused(THREE + ";treasure 1 1 0", 2, 33);
            Probe.refused(THREE + ";treasure 1 1 0000", 2, 33);
            Probe.refused(THREE + ";treasure 1 1 1000", 2, 33);
        });
    }

    private void firstError() {
        says("Parsing stops at the first token, from the left, at which an error is found;", () -> {
            Probe.refused("polygon 0 0 16 0 x", 2, 12);
            Probe.refused("polygon 0 0 x 16", 1, 12);
            Probe.refused("polygon 0 0 2 2 2 0 0 2;guard 99 0", 3, 23);
            Probe.refused("polygon 0 0 2 2 2 0 0 99;", 2, 22);
            Probe.refused(THREE + ";guard 0 2 range 100", 4, 28);
            Probe.refused(THREE + ";guard 0 1;guard 16 0", 4, 28);
            Probe.refused(THREE + ";treasure 0 2 0", 4, 31);
            Probe.refused(THREE + ";treasure 1 1 0;?", 2, 33);
            Probe.refused(THREE + ";guard 1 1".repeat(6) + ";guard 16 16?", 5, 80);
            Probe.refused(TWELVE + " 1 16", 5, 56);
        });
        says("if several errors apply to that token, the smallest code is reported.", () -> {
            // the X of a 13th vertex: out of its bounds, too long, no number
            Probe.refused(TWELVE + " 16 0", 2, 56);
            Probe.refused(TWELVE + " 00016 0", 1, 56);
            Probe.refused(TWELVE + " x", 1, 56);
            // the Y of a guard or treasure at no point: out of its bounds, too long
            Probe.refused(THREE + ";guard 1 16", 2, 28);
            Probe.refused(THREE + ";guard 1 00016", 1, 28);
            Probe.refused(THREE + ";treasure 1 16 5", 2, 31);
            // too long and out of its bounds
            Probe.refused("polygon 99999 0 2 0 2 2", 1, 8);
            // not complete and not simple
            Probe.refused("polygon 0 0 0 0", 1, 15);
            Probe.refused("polygon 0 0 0 0;", 1, 15);
            // not simple and more than 64 points
            Probe.refused("polygon 0 0 15 15 15 0 0 15", 3, 27);
            // the polygon so far is not simple, but this is no token for that error
            Probe.refused("polygon" + " 0 0".repeat(12) + " 0 0", 5, 56);
            Probe.refused("polygon" + " 0 0".repeat(3) + " guard", 1, 20);
        });
        says("The position of an error is the index of the token's first byte;", () -> {
            Probe.refused("x", 1, 0);
            Probe.refused("   polygons", 1, 3);
            Probe.refused("polygon 0   0016 2 0 2 2", 2, 12);
            Probe.refused("polygon 0 0 2 0 2 123456", 1, 18);
            Probe.refused("polygon 0 0 2 2 2 0 0 2   ;guard 1 1", 3, 26);
            Probe.refused(THREE + ";guard 0   02 range 5", 4, 30);
            Probe.refused(THREE + ";guard 1 1".repeat(6) + ";   guard 1 1", 5, 83);
            Probe.refused(TWELVE + "   015", 5, 58);
        });
        says("at the end of the text it is the number of bytes.", () -> {
            Probe.refused("", 1, 0);
            Probe.refused("   ", 1, 3);
            Probe.refused(" ".repeat(600), 1, 600);
            Probe.refused("polygon 0 0 2 0 2", 1, 17);
            Probe.refused("polygon 0 0 2 0 2   ", 1, 20);
            Probe.refused("polygon 0 0 2 2 2 0 0 2", 3, 23);
            Probe.refused("polygon 0 0 2 2 2 0 0 2    ", 3, 27);
            // of the bytes that are parsed, not of those in the buffer
            GalleryGuards g = new GalleryGuards();
            Probe.append(g, THREE);
            fails("load(15)", ARGUMENT, () -> g.load(15));
            due("errorPosition()", g.errorPosition(), 15);
        });
    }

    private void errorOne() {
        says("1: a byte that starts no token,", () -> {
            for (int other = 0; other < 256; other++) {
                boolean letterOrDigit = other >= '0' && other <= '9' || other >= 'a' && other <= 'z';
                if (!letterOrDigit && other != ' ' && other != ';') {
                    Probe.refused(String.valueOf((char) other), 1, 0);
                    Probe.refused(THREE + ";guard 1 1" + (char) other, 1, 29);
                }
            }
        });
        says("a word of 9 or more letters,", () -> {
            Probe.refused(THREE + ";treasures 1 1 5", 1, 20);
            Probe.refused(THREE + ";treasuretreasure 1 1 5", 1, 20);
            Probe.refused("polygonpolygon 0 0 2 0 2 2", 1, 0);
            Probe.refused("a".repeat(600), 1, 0);
            Probe.refused(THREE + ";guard 1 1 rangerange 5", 1, 30);
        });
        says("a number of 5 or more digits,", () -> {
            Probe.refused("polygon 00000 0 2 0 2 2", 1, 8);
            Probe.refused("polygon 0 00000 2 0 2 2", 1, 10);
            Probe.refused("polygon 0 0 2 0 2 000000002", 1, 18);
            Probe.refused(THREE + ";guard 1 1 range 00005", 1, 36);
            Probe.refused(THREE + ";treasure 1 1 00005", 1, 33);
            Probe.refused("polygon " + "0".repeat(592), 1, 8);
            // 2 to the 32nd and one more
            Probe.refused("polygon 4294967297 0 2 0 2 2", 1, 8);
        });
        says("a token that the grammar does not allow here,", () -> {
            Probe.refused("0", 1, 0);
            Probe.refused(";", 1, 0);
            Probe.refused("guard 1 1", 1, 0);
            Probe.refused("polygon guard", 1, 8);
            Probe.refused("polygon 0;", 1, 9);
            Probe.refused("polygon 0 0 2 0;guard 0 0", 1, 15);
            Probe.refused(THREE + " range 5", 1, 20);
            Probe.refused(THREE + ";range 5", 1, 20);
            Probe.refused(THREE + ";guard;", 1, 25);
            Probe.refused(THREE + ";guard 1 1 treasure 1 1 5", 1, 30);
            Probe.refused(THREE + ";treasure 1 1 5 guard 1 1", 1, 35);
        });
        says("or the end of the text where a line is not complete.", () -> {
            String whole = "polygon 0 0 2 0 2 2";
            for (int n = 0; n < whole.length(); n++) {
                boolean cutWord = n > 0 && n < 7;
                Probe.refused(whole.substring(0, n), 1, cutWord ? 0 : n);
            }
            Probe.refused(THREE + ";", 1, 20);
            Probe.refused(THREE + ";guard 1 ", 1, 28);
            Probe.refused(THREE + ";guard 1 1 range ", 1, 36);
            Probe.refused(THREE + ";treasure 1 1 ", 1, 33);
        });
    }

    private void errorTwoToFive() {
        says("2: a number out of its bounds.", () -> {
            Probe.refused("polygon 16 0 2 0 2 2", 2, 8);
            Probe.refused("polygon 0 0 2 0 2 9999", 2, 18);
            Probe.refused(THREE + " 16 2", 2, 20);
            Probe.refused(THREE + " 0 16", 2, 22);
            Probe.refused(THREE + ";guard 1 1 range 100", 2, 36);
            Probe.refused(THREE + ";treasure 1 1 0", 2, 33);
            Probe.refused(THREE + ";treasure 1 1 1000", 2, 33);
        });
        says("3: a polygon that is not simple,", () -> {
            refusedEveryWay("0 0 2 2 2 0 0 2");
            refusedEveryWay("0 0 4 0 4 4 2 0 0 4");
            refusedEveryWay("0 0 3 0 1 0 1 3");
            refusedEveryWay("0 0 1 0 2 0");
        });
        says("or that has more than 64 points:", () -> {
            Probe.accepted("polygon 0 0 7 0 7 7 0 7", 64);
            refusedEveryWay("0 0 12 0 12 4 0 4");
            refusedEveryWay("0 1 3 0 7 1 7 8 0 8");
            refusedEveryWay("0 0 15 0 15 15 0 15");
        });
        says("at the token behind its last Y", () -> {
            Probe.refused("polygon 0 0 2 2 2 0 0 2;guard 1 1", 3, 23);
            Probe.refused("polygon 0 0 2 2 2 0 0 2  ;guard 1 1", 3, 25);
            // three vertices are not simple, the fourth would make it worse: the token behind tells how many there are
            Probe.refused("polygon 0 0 1 0 2 0 16 0", 2, 20);
            Probe.accepted("polygon 0 0 1 0 2 0 0 2", 6);
        });
        says("(a semicolon or the end of the text).", () -> {
            Probe.refused("polygon 0 0 2 2 2 0 0 2;", 3, 23);
            Probe.refused("polygon 0 0 2 2 2 0 0 2 ;?", 3, 24);
            Probe.refused("polygon 0 0 2 2 2 0 0 2", 3, 23);
            Probe.refused("polygon 0 0 2 2 2 0 0 2 ", 3, 24);
            Probe.refused("polygon 0 0 2 2 2 0 0 2 ?", 1, 24);
        });
        says("4: a guard or a treasure that is at no point of the polygon:", () -> {
            Probe.refused(THREE + ";guard 0 1", 4, 28);
            Probe.refused(THREE + ";guard 15 15", 4, 29);
            Probe.refused(THREE + ";treasure 1 2 5", 4, 31);
            Probe.refused(Probe.ELL + ";guard 2 2", 4, 40);
            // those of this text, not of the polygon that stays
            GalleryGuards g = loaded(FULL);
            Probe.refusedBy(g, THREE + ";guard 3 3", 4, 28);
            Probe.refusedBy(g, THREE + ";treasure 3 3 5", 4, 31);
            due("points()", g.points(), 64);
            // and not the other way round
            GalleryGuards h = loaded(THREE);
            due("a point of this text", reload(h, FULL + ";guard 7 7;treasure 7 7 5"), 64);
        });
        says("at its Y.", () -> {
            Probe.refused(THREE + ";guard   00   01 range 5", 4, 33);
            Probe.refused(THREE + ";guard 0 1", 4, 28);
            Probe.refused(THREE + ";treasure 0 1", 4, 31);
            Probe.refused(THREE + ";guard 1 1;treasure 2 0 5;guard 0 2", 4, 53);
        });
        says("5: the X of a 13th vertex;", () -> {
            Probe.refused(TWELVE + " 1 1", 5, 56);
            Probe.refused(TWELVE + " 0", 5, 56);
            Probe.refused(TWELVE + " 15", 5, 56);
            Probe.accepted(TWELVE + ";guard 1 1", 25);
        });
        says("the word of a seventh guard or treasure.", () -> {
            String guards = Probe.SQUARE + ";guard 1 1 range 5".repeat(6);
            String treasures = Probe.SQUARE + ";treasure 1 1 5".repeat(6);
            Probe.accepted(guards, 9);
            Probe.accepted(treasures, 9);
            Probe.refused(guards + ";guard 1 1", 5, guards.length() + 1);
            Probe.refused(guards + ";guard", 5, guards.length() + 1);
            Probe.refused(treasures + ";treasure 1 1 5", 5, treasures.length() + 1);
            Probe.refused(treasures + ";  treasure", 5, treasures.length() + 3);
            // six of one kind leave room for the other kind
            Probe.accepted(guards + ";treasure 1 1 5".repeat(6), 9);
            Probe.refused(guards + ";treasure 1 1 5".repeat(6) + ";treasure", 5, guards.length() + 91);
            Probe.refused(treasures + ";guard 1 1".repeat(6) + ";guard", 5, treasures.length() + 61);
            Probe.refused(guards + ";guards", 1, guards.length() + 1);
            Probe.refused(guards + ";", 1, guards.length() + 1);
        });
    }

    // ---- promises 1 to 6

    private void newObject() {
        promise(1);
        says("Creates an object without a polygon", () -> {
            GalleryGuards g = new GalleryGuards();
            due("vertices()", g.vertices(), 0);
            due("points()", g.points(), 0);
            due("guards()", g.guards(), 0);
            due("treasures()", g.treasures(), 0);
            due("undoable()", g.undoable(), 0);
            due("parseError()", g.parseError(), 0);
            due("errorPosition()", g.errorPosition(), -1);
            fails("doubleArea()", STATE, () -> g.doubleArea());
            fails("undo()", STATE, () -> g.undo());
            fails("restore(0)", STATE, () -> g.restore(0));
            fails("restore(1)", STATE, () -> g.restore(1));
            fails("drawnByte(0)", INDEX, () -> g.drawnByte(0));
        });
        says("and with an empty input buffer.", () -> {
            GalleryGuards g = new GalleryGuards();
            due("buffered()", g.buffered(), 0);
            fails("load(1)", INDEX, () -> g.load(1));
            due("the first append", g.append(0, 0, 0, 0, 0), 20);
            // objects share nothing
            GalleryGuards other = loaded(Probe.SQUARE);
            due("another object's polygon", g.vertices() + other.vertices(), 4);
            due("another object's buffer", other.buffered(), 0);
        });
    }

    /** Twenty blanks but for one byte, which starts no token: the position of the error tells where it came to. */
    private static void oddByteIn(int argument) {
        for (int k = 0; k < 4; k++) {
            int[] words = new int[5];
            Arrays.fill(words, BLANK_WORD);
            words[argument] ^= 0x81 << 8 * (3 - k);
            GalleryGuards g = new GalleryGuards();
            g.append(BLANK_WORD, BLANK_WORD, BLANK_WORD, BLANK_WORD, BLANK_WORD);
            g.append(words[0], words[1], words[2], words[3], words[4]);
            fails("load(40)", ARGUMENT, () -> g.load(40));
            due("byte " + k + " of argument " + argument, g.errorPosition(), 20 + 4 * argument + k);
        }
    }

    private void append() {
        promise(2);
        says("Appends twenty bytes to the input buffer:", () -> {
            GalleryGuards g = new GalleryGuards();
            due("append", g.append(0x706f6c79, 0x676f6e20, 0x30203020, 0x31203020, 0x30203120), 20);
            due("buffered()", g.buffered(), 20);
            due("load(20)", g.load(20), 3);
            // they come behind the bytes that are there
            due("append", g.append(0x706f6c79, 0x676f6e20, 0x30203020, 0x31203020, 0x3020313b), 20);
            due("append", g.append(0x67756172, 0x64203020, 0x31207261, 0x6e676520, 0x37202020), 40);
            due("load(40)", g.load(40), 3);
            due("guardRange(0)", g.guardRange(0), 7);
        });
        says("the four bytes of each argument in order, the most significant byte first.", () -> {
            for (int argument = 0; argument < 5; argument++) {
                oddByteIn(argument);
            }
        });
        String[] names = {"a", "b", "c", "d", "e"};
        for (int i = 0; i < 5; i++) {
            int argument = i;
            says("- `" + names[i] + "`: bytes " + 4 * i + " to " + (4 * i + 3), () -> oddByteIn(argument));
        }
        says("Returns the number of bytes in the buffer;", () -> {
            GalleryGuards g = new GalleryGuards();
            for (int i = 1; i <= 30; i++) {
                due("append " + i, g.append(-1, 0, Integer.MIN_VALUE, Integer.MAX_VALUE, 1), 20 * i);
            }
        });
        says("NONE if there would be more than 600,", () -> {
            GalleryGuards g = new GalleryGuards();
            for (int i = 0; i < 29; i++) {
                g.append(0, 0, 0, 0, 0);
            }
            due("the 30th", g.append(0, 0, 0, 0, 0), 600);
            due("the 31st", g.append(0, 0, 0, 0, 0), -1);
            due("the 32nd", g.append(0, 0, 0, 0, 0), -1);
        });
        says("in which case nothing is appended.", () -> {
            GalleryGuards g = new GalleryGuards();
            Probe.append(g, Probe.SQUARE + " ".repeat(577));
            g.append(0x3f3f3f3f, 0x3f3f3f3f, 0x3f3f3f3f, 0x3f3f3f3f, 0x3f3f3f3f);
            due("buffered()", g.buffered(), 600);
            fails("load(601)", INDEX, () -> g.load(601));
            due("the bytes that were there", g.load(600), 9);
            due("append after load", g.append(0, 0, 0, 0, 0), 20);
        });
    }

    private void load() {
        promise(3);
        says("Parses the first n bytes of the input buffer", () -> {
            GalleryGuards g = new GalleryGuards();
            Probe.append(g, "polygon 0 0 2 0 2 2 0 2????");
            due("load(23)", g.load(23), 9);
            Probe.append(g, "polygon 13 15 15 15 15 14");
            due("load(25)", g.load(25), 4);
            // a number that n cuts
            Probe.append(g, "polygon 13 15 15 15 15 14");
            due("load(24)", g.load(24), 24);
            due("vertexY(2)", g.vertexY(2), 1);
        });
        says("and empties the buffer,", () -> {
            GalleryGuards g = new GalleryGuards();
            Probe.append(g, Probe.SQUARE);
            g.load(23);
            due("buffered()", g.buffered(), 0);
            fails("load(1)", INDEX, () -> g.load(1));
        });
        says("even if the parse fails.", () -> {
            GalleryGuards g = new GalleryGuards();
            Probe.append(g, Probe.SQUARE);
            fails("load(22)", ARGUMENT, () -> g.load(22));
            due("buffered()", g.buffered(), 0);
            fails("load(1)", INDEX, () -> g.load(1));
            due("the next text starts at 0", reload(g, Probe.SQUARE), 9);
        });
        says("On success the polygon, the guards and the treasures replace the previous ones,", () -> {
            GalleryGuards g = loaded(Probe.ELL + ";guard 0 0 range 2;guard 4 1;treasure 4 0 5");
            reload(g, Probe.SQUARE);
            due("without guards and treasures", Probe.stateOf(g), "0,0 2,0 2,2 0,2 /9///0");
            reload(g, Probe.ELL + ";treasure 0 0 1;guard 1 4 range 3");
            due("with others", Probe.stateOf(g), "0,0 4,0 4,1 1,1 1,4 0,4 /16/15r3 /0 /0");
            due("what is seen", g.visible(9), 1023);
            // no answer is left over from the polygon before
            for (String numbers : Shapes.DRAWN) {
                reload(g, "polygon " + numbers);
                same("the answers for " + numbers, Everything.askedOfState(g),
                        Everything.askedOfState(loaded("polygon " + numbers)));
            }
        });
        says("nothing can be undone,", () -> {
            GalleryGuards g = loaded(Probe.SQUARE);
            g.addGuard(0, 1);
            g.addGuard(0, 1);
            reload(g, Probe.SQUARE);
            due("undoable()", g.undoable(), 0);
            fails("undo()", STATE, () -> g.undo());
            g.addGuard(0, 1);
            due("one change since then", g.undo(), 0);
            fails("undo()", STATE, () -> g.undo());
        });
        says("and no state is saved.", () -> {
            GalleryGuards g = loaded(Probe.SQUARE);
            g.save(0);
            g.save(1);
            reload(g, Probe.SQUARE);
            fails("restore(0)", STATE, () -> g.restore(0));
            fails("restore(1)", STATE, () -> g.restore(1));
        });
        says("- `n`: number of bytes to parse", () -> {
            GalleryGuards g = new GalleryGuards();
            Probe.append(g, Probe.SQUARE + " ".repeat(577));
            due("all 600", g.load(600), 9);
            fails("none", ARGUMENT, () -> g.load(0));
            due("errorPosition() of none", g.errorPosition(), 0);
        });
        says("Returns the number of points.", () -> {
            due("the fewest", reload(new GalleryGuards(), "polygon 0 0 1 0 0 1"), 3);
            due("the most", reload(new GalleryGuards(), FULL), 64);
        });
    }

    private void loadErrors() {
        says("Throws `IndexOutOfBoundsException` if n is negative or greater than the number of bytes in the buffer;",
                () -> {
            GalleryGuards g = new GalleryGuards();
            fails("load(1) of none", INDEX, () -> g.load(1));
            fails("load(-1) of none", INDEX, () -> g.load(-1));
            Probe.append(g, Probe.SQUARE);
            int[] others = {-1, Integer.MIN_VALUE, 41, 600, 601, Integer.MAX_VALUE};
            for (int n : others) {
                fails("load(" + n + ") of 40", INDEX, () -> g.load(n));
            }
            due("load(40) of 40", g.load(40), 9);
            fails("load(40) after that", INDEX, () -> g.load(40));
        });
        says("the buffer, parseError() and errorPosition() stay", () -> {
            GalleryGuards g = loaded(Probe.ELL);
            Probe.refusedBy(g, "polygon 0 0 1 0 16", 2, 16);
            Probe.append(g, Probe.SQUARE);
            fails("load(-1)", INDEX, () -> g.load(-1));
            fails("load(41)", INDEX, () -> g.load(41));
            due("buffered()", g.buffered(), 40);
            due("parseError()", g.parseError(), 2);
            due("errorPosition()", g.errorPosition(), 16);
            due("the polygon", g.vertices(), 6);
            due("the bytes", g.load(40), 9);
            fails("load(1)", INDEX, () -> g.load(1));
            due("parseError() of a success", g.parseError(), 0);
            due("errorPosition() of a success", g.errorPosition(), -1);
        });
        says("Throws `IllegalArgumentException` if the text has an error;", () -> {
            String[] texts = {"", "polygon 16", "polygon 0 0 1 0 2 0", THREE + ";guard 0 2", TWELVE + " 1 1"};
            for (int code = 1; code <= 5; code++) {
                GalleryGuards g = new GalleryGuards();
                Probe.append(g, texts[code - 1]);
                int n = texts[code - 1].length();
                fails("error " + code, ARGUMENT, () -> g.load(n));
                due("parseError()", g.parseError(), code);
            }
        });
        says("the previous polygon stays", () -> {
            GalleryGuards g = loaded(Probe.ELL + ";guard 0 0 range 2;treasure 4 0 5");
            g.save(1);
            g.setRange(0, 3);
            g.save(0);
            g.setRange(0, 4);
            String before = Probe.stateOf(g);
            String[] texts = {"", "polygon 16", "polygon 0 0 1 0 2 0", THREE + ";guard 0 2", TWELVE + " 1 1",
                FULL + ";guard 7 7;treasure 7 7 5;"};
            for (String text : texts) {
                Probe.append(g, text);
                fails("load of " + text, ARGUMENT, () -> g.load(text.length()));
                due("the state after " + text, Probe.stateOf(g), before);
                due("what is seen after " + text, g.visible(9), 1023);
            }
            due("what can be undone", g.undo(), 1);
            due("the range", g.guardRange(0), 3);
            g.restore(1);
            due("the range saved in slot 1", g.guardRange(0), 2);
            g.restore(0);
            due("the range saved in slot 0", g.guardRange(0), 3);
        });
    }

    private void latestError() {
        promise(4);
        says("Returns the parse error code of the latest call of load that did not throw IndexOutOfBoundsException.",
                () -> {
            GalleryGuards g = new GalleryGuards();
            Probe.refusedBy(g, "polygon 16", 2, 8);
            fails("load(1)", INDEX, () -> g.load(1));
            due("after load(1)", g.parseError(), 2);
            Probe.refusedBy(g, "?", 1, 0);
            due("the next one", g.parseError(), 1);
        });
        says("Returns the code 1 to 5;", () -> {
            Probe.refused("", 1, 0);
            Probe.refused("polygon 16", 2, 8);
            Probe.refused("polygon 0 0 1 0 2 0", 3, 19);
            Probe.refused(THREE + ";guard 0 2", 4, 28);
            Probe.refused(TWELVE + " 1 1", 5, 56);
        });
        says("0 if that call succeeded", () -> {
            GalleryGuards g = new GalleryGuards();
            Probe.refusedBy(g, "polygon 16", 2, 8);
            reload(g, Probe.SQUARE);
            due("after a success", g.parseError(), 0);
            fails("load(1)", INDEX, () -> g.load(1));
            due("after load(1)", g.parseError(), 0);
        });
        says("or if there was none.", () -> {
            GalleryGuards g = new GalleryGuards();
            due("new", g.parseError(), 0);
            fails("load(1)", INDEX, () -> g.load(1));
            due("after load(1)", g.parseError(), 0);
            g.append(0, 0, 0, 0, 0);
            due("after append", g.parseError(), 0);
        });
        promise(5);
        says("Returns the position of the parse error of that call of load.", () -> {
            GalleryGuards g = new GalleryGuards();
            Probe.refusedBy(g, "polygon 16", 2, 8);
            fails("load(1)", INDEX, () -> g.load(1));
            due("after load(1)", g.errorPosition(), 8);
            Probe.refusedBy(g, " ?", 1, 1);
            due("the next one", g.errorPosition(), 1);
        });
        says("Returns the position;", () -> {
            Probe.refused("?", 1, 0);
            Probe.refused(" ".repeat(599) + "?", 1, 599);
            Probe.refused(" ".repeat(600), 1, 600);
        });
        says("NONE if parseError() is 0.", () -> {
            GalleryGuards g = new GalleryGuards();
            due("new", g.errorPosition(), -1);
            Probe.refusedBy(g, "polygon 16", 2, 8);
            reload(g, Probe.SQUARE);
            due("after a success", g.errorPosition(), -1);
        });
        promise(6);
        says("Returns the number of bytes in the input buffer.", () -> {
            GalleryGuards g = new GalleryGuards();
            due("none", g.buffered(), 0);
            Probe.append(g, Probe.SQUARE);
            due("40", g.buffered(), 40);
            fails("load(41)", INDEX, () -> g.load(41));
            due("still 40", g.buffered(), 40);
            g.load(23);
            due("none after load", g.buffered(), 0);
            Probe.append(g, " ".repeat(600));
            due("600", g.buffered(), 600);
            g.append(0, 0, 0, 0, 0);
            due("still 600", g.buffered(), 600);
        });
    }
}

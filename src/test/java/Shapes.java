import java.util.ArrayList;
import java.util.List;
import java.util.Random;

/** Polygons for the tests: some that were drawn by hand, and any number grown by chance. */
final class Shapes {
    /** 64 points, of which the last one alone sees all. */
    static final String LAST_SEES_ALL = "6 10 0 1 5 1 6 9 6 0 7 1 7 7 9 2 13 2";
    /** 64 points, of which the last one is the farthest from the first one; these two are the witnesses. */
    static final String LAST_IS_FARTHEST = "0 13 11 9 13 10 6 5 10 4 11 3 10 0 1 1 3 6 8 10";

    /** Each is the X and Y numbers of a text: combs, spirals, stars, flat angles, thin and large ones. */
    static final String[] DRAWN = {
        "0 0 2 0 2 2 0 2",
        "0 0 4 0 4 1 1 1 1 4 0 4",
        "0 0 7 0 7 7 0 7",
        "0 0 0 7 7 7 7 0",
        "0 0 15 0 15 3 0 3",
        "0 0 15 1 0 1",
        "0 0 1 0 2 0 3 0 3 3 0 3",
        "0 0 4 0 4 4 2 2 0 4",
        // combs whose teeth need a guard each
        "0 0 15 0 15 1 14 5 12 1 10 5 9 1 6 5 6 1 3 5 2 1 0 5",
        "0 1 1 5 2 1 4 1 5 5 6 1 8 1 9 5 10 1 12 1 13 5 14 0",
        "0 0 14 0 13 4 12 1 10 1 9 4 8 1 6 1 5 4 4 1 2 1 1 4",
        "0 0 13 0 13 3 12 3 12 1 9 1 9 3 8 3 8 1 1 1 1 3 0 3",
        // spirals
        "0 0 9 0 9 7 2 7 2 4 6 4 6 5 3 5 3 6 8 6 8 1 0 1",
        "0 0 5 0 5 5 1 5 1 2 3 2 3 3 2 3 2 4 4 4 4 1 0 1",
        "7 0 7 6 0 6 0 2 4 2 4 4 3 4 3 3 1 3 1 5 6 5 6 0",
        // stars
        "5 0 6 4 10 5 6 6 5 10 4 6 0 5 4 4",
        "4 0 5 3 8 4 5 5 4 8 3 5 0 4 3 3",
        "6 0 7 4 10 2 8 5 12 6 8 7 10 10 7 8 6 12 5 8 2 10 4 5",
        // thin ones with few points
        "0 0 15 14 14 14",
        "0 0 15 15 14 15 13 15",
        // flat angles along all sides
        "0 0 1 0 2 0 4 0 4 1 4 3 4 4 2 4 0 4 0 3 0 2 0 1",
        // 64 points, and a notch
        "0 0 3 0 3 15 0 15",
        "0 0 7 0 7 7 0 7 1 4",
        LAST_SEES_ALL,
        LAST_IS_FARTHEST,
        // point 0 is the only end of an edge to see what the edge sees, or not seen by those who see the rest
        "1 1 10 10 9 2 10 2",
        "4 4 6 2 1 1 5 2",
        // at most three hidden points, though there are more sets of them than one would look at
        "3 2 2 7 1 10 2 9 4 4 6 8 5 3 5 0",
    };

    /** The drawn ones, as they are and turned by 180 degrees, which turns the order of their points round. */
    static List<String> bothWays() {
        List<String> shapes = new ArrayList<>(List.of(DRAWN));
        for (String numbers : DRAWN) {
            List<int[]> turned = new ArrayList<>();
            for (int[] c : corners(numbers)) {
                turned.add(new int[] {15 - c[0], 15 - c[1]});
            }
            shapes.add(numbers(turned));
        }
        return shapes;
    }

    static List<int[]> corners(String numbers) {
        List<int[]> corners = new ArrayList<>();
        String[] parts = numbers.trim().split(" +");
        for (int i = 0; i + 1 < parts.length; i += 2) {
            corners.add(new int[] {Integer.parseInt(parts[i]), Integer.parseInt(parts[i + 1])});
        }
        return corners;
    }

    static String numbers(List<int[]> corners) {
        StringBuilder text = new StringBuilder();
        for (int[] c : corners) {
            text.append(text.length() == 0 ? "" : " ").append(c[0]).append(' ').append(c[1]);
        }
        return text.toString();
    }

    static boolean fits(List<int[]> corners) {
        return Model.possible(new Model.State(corners, new ArrayList<>(), new ArrayList<>()));
    }

    /** Grows a polygon from a triangle by vertices put in or moved, as far as chance and the limits allow. */
    static List<int[]> grown(Random random, int wanted, int tries) {
        int width = 2 + random.nextInt(14);
        int height = 2 + random.nextInt(14);
        List<int[]> corners = new ArrayList<>();
        for (int i = 0; i < 1000 && !(corners.size() == 3 && fits(corners)); i++) {
            corners.clear();
            for (int k = 0; k < 3; k++) {
                corners.add(new int[] {random.nextInt(width), random.nextInt(height)});
            }
        }
        for (int i = 0; i < tries; i++) {
            List<int[]> next = new ArrayList<>(corners);
            int[] spot = {random.nextInt(width), random.nextInt(height)};
            if (next.size() < wanted && random.nextInt(3) > 0) {
                next.add(1 + random.nextInt(next.size()), spot);
            } else {
                next.set(random.nextInt(next.size()), spot);
            }
            if (fits(next)) {
                corners = next;
            }
        }
        return fits(corners) ? corners : corners("0 0 3 0 0 3");
    }

    private Shapes() {
    }
}

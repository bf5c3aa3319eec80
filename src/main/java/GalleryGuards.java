/**
 * A workbench for art gallery problems: guards, visibility and triangulations in a simple polygon with integer
 * coordinates. The numbered promises of the document say what each method does.
 */
public final class GalleryGuards {
    public static final int NONE = -1;

    private static final int MIN_VERTICES = 3;
    private static final int MAX_VERTICES = 12;
    private static final int MAX_TRIANGLES = MAX_VERTICES - 2;
    private static final int MAX_POINTS = 64;
    private static final int MAX_GUARDS = 6;
    private static final int MAX_TREASURES = 6;
    private static final int MAX_RANGE = 99;
    private static final int MAX_VALUE = 999;
    private static final int SIDE = 16;
    private static final int MAX_BYTES = 600;
    private static final int BYTES_PER_CALL = 20;
    private static final int MAX_CHANGES = 8;
    private static final int SLOTS = 2;

    private final Input input;
    private final Parser parser;
    private final Plan plan;
    private final Plan draft;
    private final Lattice lattice;
    private final Lattice draftLattice;
    private final Sight sight;
    private final Triangulation triangulation;
    private final CoverSearch covers;
    private final SpreadSearch spreads;
    private final Watch watch;
    private final History history;
    private final Plan firstSaved;
    private final Plan secondSaved;
    private final int[] drawn;
    private boolean hasDrawn;
    private int errorCode;
    private int errorAt;

    public GalleryGuards() {
        input = new Input();
        plan = new Plan();
        draft = new Plan();
        lattice = new Lattice();
        draftLattice = new Lattice();
        parser = new Parser(input, draft, draftLattice);
        sight = new Sight(plan, lattice);
        triangulation = new Triangulation(plan);
        covers = new CoverSearch(plan, lattice, sight);
        spreads = new SpreadSearch(sight);
        watch = new Watch(plan, lattice, sight);
        history = new History();
        firstSaved = new Plan();
        secondSaved = new Plan();
        drawn = new int[SIDE];
        hasDrawn = false;
        errorCode = Parser.FINE;
        errorAt = NONE;
    }

    // ---- input

    public int append(int a, int b, int c, int d, int e) {
        if (input.size + BYTES_PER_CALL > MAX_BYTES) {
            return NONE;
        }
        input.addWord(a);
        input.addWord(b);
        input.addWord(c);
        input.addWord(d);
        input.addWord(e);
        return input.size;
    }

    public int load(int n) throws IndexOutOfBoundsException, IllegalArgumentException {
        if (n < 0 || n > input.size) {
            throw new IndexOutOfBoundsException("not so many bytes in the buffer");
        }
        errorCode = parser.parse(n);
        errorAt = errorCode == Parser.FINE ? NONE : input.tokenStart;
        input.size = 0;
        if (errorCode != Parser.FINE) {
            throw new IllegalArgumentException("the text has an error");
        }
        history.clear();
        firstSaved.clear();
        secondSaved.clear();
        replacePlan(draft);
        return lattice.count;
    }

    public int parseError() {
        return errorCode;
    }

    public int errorPosition() {
        return errorAt;
    }

    public int buffered() {
        return input.size;
    }

    // ---- the polygon

    public int vertices() {
        return plan.vertexCount;
    }

    public int vertexX(int vertex) throws IllegalStateException, IndexOutOfBoundsException {
        needPolygon();
        needIndex(vertex, plan.vertexCount);
        return plan.cornerX(vertex);
    }

    public int vertexY(int vertex) throws IllegalStateException, IndexOutOfBoundsException {
        needPolygon();
        needIndex(vertex, plan.vertexCount);
        return plan.cornerY(vertex);
    }

    public int doubleArea() throws IllegalStateException {
        needPolygon();
        return Math.abs(Outline.signedArea(plan));
    }

    public int reflexVertices() throws IllegalStateException {
        needPolygon();
        return Outline.reflexSet(plan);
    }

    public int points() {
        return lattice.count;
    }

    public int pointX(int point) throws IllegalStateException, IndexOutOfBoundsException {
        needPolygon();
        needIndex(point, lattice.count);
        return lattice.xOf(point);
    }

    public int pointY(int point) throws IllegalStateException, IndexOutOfBoundsException {
        needPolygon();
        needIndex(point, lattice.count);
        return lattice.yOf(point);
    }

    public int pointAt(int x, int y) throws IllegalStateException {
        needPolygon();
        return lattice.numberAt(x, y);
    }

    public long boundary() throws IllegalStateException {
        needPolygon();
        return lattice.rim;
    }

    // ---- visibility

    public boolean sees(int point, int other) throws IllegalStateException, IndexOutOfBoundsException {
        needPolygon();
        needIndex(point, lattice.count);
        needIndex(other, lattice.count);
        sight.learn();
        return has(sight.from(point), other);
    }

    public long visible(int point) throws IllegalStateException, IndexOutOfBoundsException {
        needPolygon();
        needIndex(point, lattice.count);
        sight.learn();
        return sight.from(point);
    }

    public long kernel() throws IllegalStateException {
        needPolygon();
        sight.learn();
        return sight.seeingAll();
    }

    public int linkDistance(int point, int other) throws IllegalStateException, IndexOutOfBoundsException {
        needPolygon();
        needIndex(point, lattice.count);
        needIndex(other, lattice.count);
        sight.learn();
        return sight.links(point, other);
    }

    public int diameter() throws IllegalStateException {
        needPolygon();
        sight.learn();
        return sight.mostLinks();
    }

    public int farthest(int point) throws IllegalStateException, IndexOutOfBoundsException {
        needPolygon();
        needIndex(point, lattice.count);
        sight.learn();
        return sight.lastReached(point);
    }

    public long seenFromEdge(int edge) throws IllegalStateException, IndexOutOfBoundsException {
        needPolygon();
        needIndex(edge, plan.vertexCount);
        sight.learn();
        return sight.fromEdge(edge);
    }

    // ---- triangulation

    public int triangleVertex(int triangle, int k)
            throws IllegalStateException, IndexOutOfBoundsException, IllegalArgumentException {
        needPolygon();
        needIndex(triangle, plan.vertexCount - 2);
        needRange(k, 0, 2);
        triangulation.learn();
        return triangulation.cornerOf(triangle, k);
    }

    public int triangleArea(int triangle) throws IllegalStateException, IndexOutOfBoundsException {
        needPolygon();
        needIndex(triangle, plan.vertexCount - 2);
        triangulation.learn();
        return triangulation.areaOf(triangle);
    }

    public int colour(int vertex) throws IllegalStateException, IndexOutOfBoundsException {
        needPolygon();
        needIndex(vertex, plan.vertexCount);
        triangulation.learn();
        return triangulation.colourOf(vertex);
    }

    public int colourGuards() throws IllegalStateException {
        needPolygon();
        triangulation.learn();
        return triangulation.rarestColourSet();
    }

    // ---- fewest guards and witnesses

    public int vertexGuards() throws IllegalStateException {
        needPolygon();
        sight.learn();
        return covers.fewestVertices();
    }

    public int edgeGuards() throws IllegalStateException {
        needPolygon();
        sight.learn();
        return covers.fewestEdges();
    }

    public int guardNumber() throws IllegalStateException {
        needPolygon();
        sight.learn();
        return covers.pointsNeeded();
    }

    public int guardPoint(int i) throws IllegalStateException, IndexOutOfBoundsException {
        needPolygon();
        sight.learn();
        needIndex(i, covers.pointsNeeded());
        return covers.pickedPoint(i);
    }

    public int witnessNumber() throws IllegalStateException {
        needPolygon();
        sight.learn();
        return spreads.mostWitnesses();
    }

    public int witness(int i) throws IllegalStateException, IndexOutOfBoundsException {
        needPolygon();
        sight.learn();
        needIndex(i, spreads.mostWitnesses());
        return spreads.pickedWitness(i);
    }

    public int hiddenNumber() throws IllegalStateException {
        needPolygon();
        sight.learn();
        return spreads.mostHidden();
    }

    // ---- the present guards

    public int guards() {
        return plan.guardCount;
    }

    public int guardAt(int guard) throws IllegalStateException, IndexOutOfBoundsException {
        needPolygon();
        needIndex(guard, plan.guardCount);
        return watch.postOf(guard);
    }

    public int guardRange(int guard) throws IllegalStateException, IndexOutOfBoundsException {
        needPolygon();
        needIndex(guard, plan.guardCount);
        return plan.reachOf(guard);
    }

    public long watched(int guard) throws IllegalStateException, IndexOutOfBoundsException {
        needPolygon();
        needIndex(guard, plan.guardCount);
        sight.learn();
        return watch.byGuard(guard);
    }

    public long unwatched() throws IllegalStateException {
        needPolygon();
        sight.learn();
        return lattice.everyPoint() & ~watch.byAllBut(NONE);
    }

    public int watchers(int point) throws IllegalStateException, IndexOutOfBoundsException {
        needPolygon();
        needIndex(point, lattice.count);
        sight.learn();
        return watch.guardsOn(point);
    }

    public int redundantGuards() throws IllegalStateException {
        needPolygon();
        sight.learn();
        return watch.spareGuards();
    }

    public int bestPoint() throws IllegalStateException {
        needPolygon();
        sight.learn();
        return watch.bestPostFor(lattice.everyPoint() & ~watch.byAllBut(NONE));
    }

    public int greedyGuards() throws IllegalStateException {
        needPolygon();
        sight.learn();
        return watch.greedyCount();
    }

    public int treasures() {
        return plan.treasureCount;
    }

    public int treasureAt(int treasure) throws IllegalStateException, IndexOutOfBoundsException {
        needPolygon();
        needIndex(treasure, plan.treasureCount);
        return watch.placeOfTreasure(treasure);
    }

    public int watchedValue() throws IllegalStateException {
        needPolygon();
        sight.learn();
        return watch.valueIn(watch.byAllBut(NONE));
    }

    public int bestValue() throws IllegalStateException {
        needPolygon();
        sight.learn();
        return watch.valueAfterBestMove();
    }

    // ---- the map

    public int draw(int y) throws IllegalStateException, IllegalArgumentException {
        needPolygon();
        needRange(y, 0, SIDE - 1);
        sight.learn();
        long lit = watch.byAllBut(NONE);
        int inRow = 0;
        for (int x = 0; x < SIDE; x++) {
            drawn[x] = signAt(x, y, lit);
            if (lattice.numberAt(x, y) != NONE) {
                inRow++;
            }
        }
        hasDrawn = true;
        return inRow;
    }

    public int drawnByte(int i) throws IndexOutOfBoundsException {
        needIndex(i, hasDrawn ? SIDE : 0);
        return drawn[i];
    }

    // ---- changes

    public int addGuard(int point, int range)
            throws IllegalStateException, IndexOutOfBoundsException, IllegalArgumentException {
        needPolygon();
        needIndex(point, lattice.count);
        needRange(range, 0, MAX_RANGE);
        if (plan.guardCount >= MAX_GUARDS) {
            throw new IllegalStateException("there are 6 guards");
        }
        history.keep(plan);
        plan.putGuard(lattice.xOf(point), lattice.yOf(point), range);
        return plan.guardCount - 1;
    }

    public int removeGuard(int guard) throws IllegalStateException, IndexOutOfBoundsException {
        needPolygon();
        needIndex(guard, plan.guardCount);
        history.keep(plan);
        plan.dropGuard(guard);
        return plan.guardCount;
    }

    public int moveGuard(int guard, int point) throws IllegalStateException, IndexOutOfBoundsException {
        needPolygon();
        needIndex(guard, plan.guardCount);
        needIndex(point, lattice.count);
        int previous = watch.postOf(guard);
        history.keep(plan);
        plan.postGuard(guard, lattice.xOf(point), lattice.yOf(point));
        return previous;
    }

    public int setRange(int guard, int range)
            throws IllegalStateException, IndexOutOfBoundsException, IllegalArgumentException {
        needPolygon();
        needIndex(guard, plan.guardCount);
        needRange(range, 0, MAX_RANGE);
        int previous = plan.reachOf(guard);
        history.keep(plan);
        plan.giveReach(guard, range);
        return previous;
    }

    public int moveVertex(int vertex, int x, int y)
            throws IllegalStateException, IndexOutOfBoundsException, IllegalArgumentException {
        needPolygon();
        needIndex(vertex, plan.vertexCount);
        needRange(x, 0, SIDE - 1);
        needRange(y, 0, SIDE - 1);
        draft.copyFrom(plan);
        draft.shiftCorner(vertex, x, y);
        return adoptDraft();
    }

    public int insertVertex(int vertex, int x, int y)
            throws IllegalStateException, IndexOutOfBoundsException, IllegalArgumentException {
        needPolygon();
        needIndex(vertex, plan.vertexCount);
        needRange(x, 0, SIDE - 1);
        needRange(y, 0, SIDE - 1);
        if (plan.vertexCount >= MAX_VERTICES) {
            throw new IllegalArgumentException("there are 12 vertices");
        }
        draft.copyFrom(plan);
        draft.putCorner(vertex + 1, x, y);
        return adoptDraft();
    }

    public int deleteVertex(int vertex)
            throws IllegalStateException, IndexOutOfBoundsException, IllegalArgumentException {
        needPolygon();
        needIndex(vertex, plan.vertexCount);
        draft.copyFrom(plan);
        draft.dropCorner(vertex);
        return adoptDraft();
    }

    public int undo() throws IllegalStateException {
        if (history.size == 0) {
            throw new IllegalStateException("no change can be undone");
        }
        history.takeInto(draft);
        replacePlan(draft);
        return history.size;
    }

    public int undoable() {
        return history.size;
    }

    public int save(int slot) throws IllegalStateException, IndexOutOfBoundsException {
        needPolygon();
        needIndex(slot, SLOTS);
        savedIn(slot).copyFrom(plan);
        return lattice.count;
    }

    public int restore(int slot) throws IndexOutOfBoundsException, IllegalStateException {
        needIndex(slot, SLOTS);
        if (savedIn(slot).vertexCount == 0) {
            throw new IllegalStateException("nothing is saved there");
        }
        history.clear();
        replacePlan(savedIn(slot));
        return lattice.count;
    }

    // ---- what the methods above share

    private void needPolygon() {
        if (plan.vertexCount == 0) {
            throw new IllegalStateException("no polygon");
        }
    }

    private static void needIndex(int index, int count) {
        if (index < 0 || index >= count) {
            throw new IndexOutOfBoundsException("no such index");
        }
    }

    private static void needRange(int value, int least, int greatest) {
        if (value < least || value > greatest) {
            throw new IllegalArgumentException("argument out of range");
        }
    }

    private static boolean has(long set, int element) {
        return ((set >>> element) & 1L) != 0;
    }

    private Plan savedIn(int slot) {
        return slot == 0 ? firstSaved : secondSaved;
    }

    /** Makes the draft the present state as one change, if its polygon is a possible one. */
    private int adoptDraft() {
        if (!Outline.isSimple(draft) || !draftLattice.fill(draft) || !draftLattice.holdsAllOf(draft)) {
            throw new IllegalArgumentException("this change of the polygon is not possible");
        }
        history.keep(plan);
        replacePlan(draft);
        return lattice.count;
    }

    private void replacePlan(Plan next) {
        plan.copyFrom(next);
        lattice.fill(plan);
        sight.forget();
        triangulation.forget();
        covers.forget();
        spreads.forget();
    }

    private int signAt(int x, int y, long lit) {
        int point = lattice.numberAt(x, y);
        if (point == NONE) {
            return ' ';
        }
        if (plan.hasGuardAt(x, y)) {
            return 'G';
        }
        if (plan.hasTreasureAt(x, y)) {
            return 'T';
        }
        if (plan.hasCornerAt(x, y)) {
            return 'V';
        }
        return has(lit, point) ? '+' : '-';
    }

    /** The state: the polygon, the guards and the treasures, all by their coordinates; without a polygon, empty. */
    private static final class Plan {
        int vertexCount = 0;
        int guardCount = 0;
        int treasureCount = 0;
        private final int[] vertexXs = new int[MAX_VERTICES];
        private final int[] vertexYs = new int[MAX_VERTICES];
        private final int[] guardXs = new int[MAX_GUARDS];
        private final int[] guardYs = new int[MAX_GUARDS];
        private final int[] guardReaches = new int[MAX_GUARDS];
        private final int[] treasureXs = new int[MAX_TREASURES];
        private final int[] treasureYs = new int[MAX_TREASURES];
        private final int[] treasureValues = new int[MAX_TREASURES];

        void clear() {
            vertexCount = 0;
            guardCount = 0;
            treasureCount = 0;
        }

        void copyFrom(Plan other) {
            vertexCount = other.vertexCount;
            guardCount = other.guardCount;
            treasureCount = other.treasureCount;
            System.arraycopy(other.vertexXs, 0, vertexXs, 0, MAX_VERTICES);
            System.arraycopy(other.vertexYs, 0, vertexYs, 0, MAX_VERTICES);
            System.arraycopy(other.guardXs, 0, guardXs, 0, MAX_GUARDS);
            System.arraycopy(other.guardYs, 0, guardYs, 0, MAX_GUARDS);
            System.arraycopy(other.guardReaches, 0, guardReaches, 0, MAX_GUARDS);
            System.arraycopy(other.treasureXs, 0, treasureXs, 0, MAX_TREASURES);
            System.arraycopy(other.treasureYs, 0, treasureYs, 0, MAX_TREASURES);
            System.arraycopy(other.treasureValues, 0, treasureValues, 0, MAX_TREASURES);
        }

        int cornerX(int vertex) {
            return vertex >= 0 && vertex < vertexCount ? vertexXs[vertex] : NONE;
        }

        int cornerY(int vertex) {
            return vertex >= 0 && vertex < vertexCount ? vertexYs[vertex] : NONE;
        }

        int after(int vertex) {
            return vertex + 1 < vertexCount ? vertex + 1 : 0;
        }

        int before(int vertex) {
            return vertex > 0 ? vertex - 1 : vertexCount - 1;
        }

        /** Puts a vertex at the given number; the later ones move up. */
        void putCorner(int vertex, int x, int y) {
            if (vertex < 0 || vertex > vertexCount || vertexCount >= MAX_VERTICES) {
                return;
            }
            for (int i = vertexCount; i > vertex; i--) {
                vertexXs[i] = vertexXs[i - 1];
                vertexYs[i] = vertexYs[i - 1];
            }
            vertexXs[vertex] = x;
            vertexYs[vertex] = y;
            vertexCount++;
        }

        void shiftCorner(int vertex, int x, int y) {
            if (vertex >= 0 && vertex < vertexCount) {
                vertexXs[vertex] = x;
                vertexYs[vertex] = y;
            }
        }

        void dropCorner(int vertex) {
            if (vertex < 0 || vertex >= vertexCount) {
                return;
            }
            for (int i = vertex; i + 1 < vertexCount; i++) {
                vertexXs[i] = vertexXs[i + 1];
                vertexYs[i] = vertexYs[i + 1];
            }
            vertexCount--;
        }

        boolean hasCornerAt(int x, int y) {
            for (int i = 0; i < vertexCount; i++) {
                if (vertexXs[i] == x && vertexYs[i] == y) {
                    return true;
                }
            }
            return false;
        }

        int guardX(int guard) {
            return guard >= 0 && guard < guardCount ? guardXs[guard] : NONE;
        }

        int guardY(int guard) {
            return guard >= 0 && guard < guardCount ? guardYs[guard] : NONE;
        }

        int reachOf(int guard) {
            return guard >= 0 && guard < guardCount ? guardReaches[guard] : 0;
        }

        void putGuard(int x, int y, int reach) {
            if (guardCount >= MAX_GUARDS) {
                return;
            }
            guardXs[guardCount] = x;
            guardYs[guardCount] = y;
            guardReaches[guardCount] = reach;
            guardCount++;
        }

        void postGuard(int guard, int x, int y) {
            if (guard >= 0 && guard < guardCount) {
                guardXs[guard] = x;
                guardYs[guard] = y;
            }
        }

        void giveReach(int guard, int reach) {
            if (guard >= 0 && guard < guardCount) {
                guardReaches[guard] = reach;
            }
        }

        void dropGuard(int guard) {
            if (guard < 0 || guard >= guardCount) {
                return;
            }
            for (int i = guard; i + 1 < guardCount; i++) {
                guardXs[i] = guardXs[i + 1];
                guardYs[i] = guardYs[i + 1];
                guardReaches[i] = guardReaches[i + 1];
            }
            guardCount--;
        }

        boolean hasGuardAt(int x, int y) {
            for (int i = 0; i < guardCount; i++) {
                if (guardXs[i] == x && guardYs[i] == y) {
                    return true;
                }
            }
            return false;
        }

        int treasureX(int treasure) {
            return treasure >= 0 && treasure < treasureCount ? treasureXs[treasure] : NONE;
        }

        int treasureY(int treasure) {
            return treasure >= 0 && treasure < treasureCount ? treasureYs[treasure] : NONE;
        }

        int worthOf(int treasure) {
            return treasure >= 0 && treasure < treasureCount ? treasureValues[treasure] : 0;
        }

        void putTreasure(int x, int y, int value) {
            if (treasureCount >= MAX_TREASURES) {
                return;
            }
            treasureXs[treasureCount] = x;
            treasureYs[treasureCount] = y;
            treasureValues[treasureCount] = value;
            treasureCount++;
        }

        boolean hasTreasureAt(int x, int y) {
            for (int i = 0; i < treasureCount; i++) {
                if (treasureXs[i] == x && treasureYs[i] == y) {
                    return true;
                }
            }
            return false;
        }
    }

    /** The latest changes, each as the state before it, the oldest one first. */
    private static final class History {
        int size = 0;
        private int oldest = 0;
        private final Plan[] past = new Plan[MAX_CHANGES];

        History() {
            for (int i = 0; i < MAX_CHANGES; i++) {
                past[i] = new Plan();
            }
        }

        void clear() {
            size = 0;
        }

        void keep(Plan plan) {
            if (size == MAX_CHANGES) {
                oldest = (oldest + 1) % MAX_CHANGES;
                size--;
            }
            Plan kept = past[(oldest + size) % MAX_CHANGES];
            if (kept != null) {
                kept.copyFrom(plan);
                size++;
            }
        }

        void takeInto(Plan plan) {
            if (size == 0) {
                return;
            }
            size--;
            Plan kept = past[(oldest + size) % MAX_CHANGES];
            if (kept != null) {
                plan.copyFrom(kept);
            }
        }
    }

    /** The input buffer, and the token that is being looked at. */
    private static final class Input {
        static final int END = 0;
        static final int WORD = 1;
        static final int NUMBER = 2;
        static final int SEMICOLON = 3;
        static final int WRONG = 4;

        private static final int LONGEST_WORD = 8;
        private static final int LONGEST_NUMBER = 4;

        int size = 0;
        int tokenKind = END;
        int tokenStart = 0;
        int number = 0;
        private int tokenEnd = 0;
        private int textEnd = 0;
        private final int[] bytes = new int[MAX_BYTES];

        void addWord(int word) {
            for (int shift = 24; shift >= 0; shift -= 8) {
                if (size < MAX_BYTES) {
                    bytes[size] = (word >>> shift) & 255;
                    size++;
                }
            }
        }

        void startText(int length) {
            textEnd = length;
            tokenEnd = 0;
            readToken();
        }

        void readToken() {
            tokenStart = runEnd(tokenEnd, ' ', ' ');
            if (tokenStart >= textEnd || tokenStart >= MAX_BYTES) {
                tokenKind = END;
                tokenEnd = tokenStart;
                return;
            }
            int first = bytes[tokenStart];
            if (first >= 'a' && first <= 'z') {
                tokenEnd = runEnd(tokenStart, 'a', 'z');
                tokenKind = tokenEnd - tokenStart <= LONGEST_WORD ? WORD : WRONG;
            } else if (first >= '0' && first <= '9') {
                tokenEnd = runEnd(tokenStart, '0', '9');
                tokenKind = tokenEnd - tokenStart <= LONGEST_NUMBER ? NUMBER : WRONG;
                number = tokenKind == NUMBER ? digitsValue() : 0;
            } else {
                tokenEnd = tokenStart + 1;
                tokenKind = first == ';' ? SEMICOLON : WRONG;
            }
        }

        /** Where the run of bytes from low to high that starts at the given index ends, at most the text's end. */
        private int runEnd(int start, int low, int high) {
            for (int i = Math.max(start, 0); i < textEnd && i < MAX_BYTES; i++) {
                if (bytes[i] < low || bytes[i] > high) {
                    return i;
                }
            }
            return textEnd;
        }

        private int digitsValue() {
            int value = 0;
            for (int i = Math.max(tokenStart, 0); i < tokenEnd && i < MAX_BYTES; i++) {
                value = value * 10 + (bytes[i] - '0');
            }
            return value;
        }

        boolean isWord(String word) {
            if (tokenKind != WORD || tokenEnd - tokenStart != word.length()) {
                return false;
            }
            for (int i = Math.max(tokenStart, 0); i < tokenEnd && i < MAX_BYTES; i++) {
                int k = i - tokenStart;
                if (k < 0 || k >= word.length() || bytes[i] != word.charAt(k)) {
                    return false;
                }
            }
            return true;
        }
    }

    /** Reads a text into a draft; each reader answers the code of the error at the token it stopped at. */
    private static final class Parser {
        static final int FINE = 0;
        static final int WRONG_TOKEN = 1;
        static final int OUT_OF_BOUNDS = 2;
        static final int BAD_POLYGON = 3;
        static final int NO_POINT = 4;
        static final int TOO_MANY = 5;

        private static final int MAX_LINES = MAX_GUARDS + MAX_TREASURES;

        private final Input input;
        private final Plan draft;
        private final Lattice lattice;
        private int readX = 0;
        private int readY = 0;

        Parser(Input input, Plan draft, Lattice lattice) {
            this.input = input;
            this.draft = draft;
            this.lattice = lattice;
        }

        int parse(int length) {
            draft.clear();
            input.startText(length);
            if (!input.isWord("polygon")) {
                return WRONG_TOKEN;
            }
            input.readToken();
            int code = readVertices();
            return code == FINE ? readLines() : code;
        }

        private int readVertices() {
            for (int i = 0; i <= MAX_VERTICES; i++) {
                if (i >= MIN_VERTICES && (input.tokenKind == Input.END || input.tokenKind == Input.SEMICOLON)) {
                    return Outline.isSimple(draft) && lattice.fill(draft) ? FINE : BAD_POLYGON;
                }
                int code = checkNumber(0, SIDE - 1);
                if (code == FINE) {
                    code = i < MAX_VERTICES ? readPlace(false) : TOO_MANY;
                }
                if (code != FINE) {
                    return code;
                }
                draft.putCorner(i, readX, readY);
            }
            return TOO_MANY;
        }

        private int readLines() {
            // one round more than lines can be taken: the line too many answers its error itself
            for (int i = 0; i <= MAX_LINES + 1; i++) {
                if (input.tokenKind == Input.END) {
                    return FINE;
                }
                if (input.tokenKind != Input.SEMICOLON) {
                    return WRONG_TOKEN;
                }
                input.readToken();
                int code = WRONG_TOKEN;
                if (input.isWord("guard")) {
                    code = draft.guardCount < MAX_GUARDS ? readGuard() : TOO_MANY;
                } else if (input.isWord("treasure")) {
                    code = draft.treasureCount < MAX_TREASURES ? readTreasure() : TOO_MANY;
                }
                if (code != FINE) {
                    return code;
                }
            }
            return TOO_MANY;
        }

        private int readGuard() {
            input.readToken();
            int code = readPlace(true);
            if (code != FINE) {
                return code;
            }
            int reach = MAX_RANGE;
            if (input.isWord("range")) {
                input.readToken();
                code = checkNumber(0, MAX_RANGE);
                if (code != FINE) {
                    return code;
                }
                reach = input.number;
                input.readToken();
            }
            draft.putGuard(readX, readY, reach);
            return FINE;
        }

        private int readTreasure() {
            input.readToken();
            int code = readPlace(true);
            if (code == FINE) {
                code = checkNumber(1, MAX_VALUE);
            }
            if (code != FINE) {
                return code;
            }
            draft.putTreasure(readX, readY, input.number);
            input.readToken();
            return FINE;
        }

        /** Reads X and Y and goes to the token behind them; if asked to, only where the polygon has a point. */
        private int readPlace(boolean ofPolygon) {
            int code = checkNumber(0, SIDE - 1);
            if (code != FINE) {
                return code;
            }
            readX = input.number;
            input.readToken();
            code = checkNumber(0, SIDE - 1);
            if (code != FINE) {
                return code;
            }
            readY = input.number;
            if (ofPolygon && lattice.numberAt(readX, readY) == NONE) {
                return NO_POINT;
            }
            input.readToken();
            return FINE;
        }

        private int checkNumber(int least, int greatest) {
            if (input.tokenKind != Input.NUMBER) {
                return WRONG_TOKEN;
            }
            return input.number >= least && input.number <= greatest ? FINE : OUT_OF_BOUNDS;
        }
    }

    /** What the vertices of a plan's polygon tell alone. */
    private static final class Outline {
        static final int OUTSIDE = 0;
        static final int ON_RIM = 1;
        static final int INSIDE = 2;

        /** Positive if a, b, c turn to the left, negative if to the right, 0 if they are on a line. */
        static int turn(int ax, int ay, int bx, int by, int cx, int cy) {
            return (bx - ax) * (cy - ay) - (by - ay) * (cx - ax);
        }

        static int turnOf(Plan plan, int a, int b, int c) {
            return turn(plan.cornerX(a), plan.cornerY(a), plan.cornerX(b), plan.cornerY(b),
                    plan.cornerX(c), plan.cornerY(c));
        }

        /** Twice the area, negative if the vertices go clockwise. */
        static int signedArea(Plan plan) {
            int sum = 0;
            for (int i = 0; i < plan.vertexCount; i++) {
                int next = plan.after(i);
                sum += plan.cornerX(i) * plan.cornerY(next) - plan.cornerX(next) * plan.cornerY(i);
            }
            return sum;
        }

        static int reflexSet(Plan plan) {
            boolean leftwards = signedArea(plan) > 0;
            int set = 0;
            for (int i = 0; i < plan.vertexCount; i++) {
                int turn = turnOf(plan, plan.before(i), i, plan.after(i));
                if (leftwards ? turn < 0 : turn > 0) {
                    set |= 1 << i;
                }
            }
            return set;
        }

        static boolean isSimple(Plan plan) {
            if (plan.vertexCount < MIN_VERTICES || plan.vertexCount > MAX_VERTICES) {
                return false;
            }
            for (int i = 0; i < plan.vertexCount; i++) {
                if (foldsBack(plan, i)) {
                    return false;
                }
                for (int j = i + 2; j < plan.vertexCount; j++) {
                    if (plan.after(j) != i && edgesMeet(plan, i, j)) {
                        return false;
                    }
                }
            }
            return true;
        }

        /** Whether edge i and the next one share more than their common vertex, or one has no length. */
        private static boolean foldsBack(Plan plan, int i) {
            int middle = plan.after(i);
            int last = plan.after(middle);
            int backX = plan.cornerX(i) - plan.cornerX(middle);
            int backY = plan.cornerY(i) - plan.cornerY(middle);
            int onX = plan.cornerX(last) - plan.cornerX(middle);
            int onY = plan.cornerY(last) - plan.cornerY(middle);
            return backX * onY - backY * onX == 0 && backX * onX + backY * onY >= 0;
        }

        private static boolean edgesMeet(Plan plan, int i, int j) {
            int iEnd = plan.after(i);
            int jEnd = plan.after(j);
            return crosses(plan, i, plan.cornerX(j), plan.cornerY(j), plan.cornerX(jEnd), plan.cornerY(jEnd))
                    || liesOn(plan, i, 1, plan.cornerX(j), plan.cornerY(j))
                    || liesOn(plan, i, 1, plan.cornerX(jEnd), plan.cornerY(jEnd))
                    || liesOn(plan, j, 1, plan.cornerX(i), plan.cornerY(i))
                    || liesOn(plan, j, 1, plan.cornerX(iEnd), plan.cornerY(iEnd));
        }

        /** Whether an edge and the segment from a to b have one point in common that is an end of neither. */
        static boolean crosses(Plan plan, int edge, int ax, int ay, int bx, int by) {
            int next = plan.after(edge);
            int fromX = plan.cornerX(edge);
            int fromY = plan.cornerY(edge);
            int toX = plan.cornerX(next);
            int toY = plan.cornerY(next);
            return opposite(turn(fromX, fromY, toX, toY, ax, ay), turn(fromX, fromY, toX, toY, bx, by))
                    && opposite(turn(ax, ay, bx, by, fromX, fromY), turn(ax, ay, bx, by, toX, toY));
        }

        private static boolean opposite(int a, int b) {
            return (a < 0 && b > 0) || (a > 0 && b < 0);
        }

        /** Whether the point (x, y) is on the edge; scale is the length of the polygon's unit in the point's. */
        static boolean liesOn(Plan plan, int edge, int scale, int x, int y) {
            int next = plan.after(edge);
            int fromX = plan.cornerX(edge) * scale;
            int fromY = plan.cornerY(edge) * scale;
            int toX = plan.cornerX(next) * scale;
            int toY = plan.cornerY(next) * scale;
            return turn(fromX, fromY, toX, toY, x, y) == 0
                    && Math.min(fromX, toX) <= x && x <= Math.max(fromX, toX)
                    && Math.min(fromY, toY) <= y && y <= Math.max(fromY, toY);
        }

        /** Where a point is, given in half units, so that midpoints of lattice points can be asked for too. */
        static int placeOf(Plan plan, int halfX, int halfY) {
            boolean inside = false;
            for (int i = 0; i < plan.vertexCount; i++) {
                if (liesOn(plan, i, 2, halfX, halfY)) {
                    return ON_RIM;
                }
                if (passesRightOf(plan, i, halfX, halfY)) {
                    inside = !inside;
                }
            }
            return inside ? INSIDE : OUTSIDE;
        }

        /** Whether a ray from the point to the right meets the edge, whose lower end counts and upper end not. */
        private static boolean passesRightOf(Plan plan, int edge, int halfX, int halfY) {
            int next = plan.after(edge);
            int fromY = 2 * plan.cornerY(edge);
            int toY = 2 * plan.cornerY(next);
            if ((fromY > halfY) == (toY > halfY)) {
                return false;
            }
            int side = turn(2 * plan.cornerX(edge), fromY, 2 * plan.cornerX(next), toY, halfX, halfY);
            return toY > fromY ? side > 0 : side < 0;
        }
    }

    /** The points of a plan's polygon and their numbers. */
    private static final class Lattice {
        int count = 0;
        long rim = 0L;
        private final int[] xs = new int[MAX_POINTS];
        private final int[] ys = new int[MAX_POINTS];
        private final int[] numbers = new int[SIDE * SIDE];

        /** Answers false if there are too many points; then what it holds is of no use. */
        boolean fill(Plan plan) {
            count = 0;
            rim = 0L;
            for (int y = 0; y < SIDE; y++) {
                for (int x = 0; x < SIDE; x++) {
                    int place = Outline.placeOf(plan, 2 * x, 2 * y);
                    numbers[y * SIDE + x] = NONE;
                    if (place == Outline.OUTSIDE) {
                        continue;
                    }
                    if (count >= MAX_POINTS) {
                        return false;
                    }
                    if (place == Outline.ON_RIM) {
                        rim |= 1L << count;
                    }
                    numbers[y * SIDE + x] = count;
                    xs[count] = x;
                    ys[count] = y;
                    count++;
                }
            }
            return true;
        }

        int numberAt(int x, int y) {
            return x >= 0 && x < SIDE && y >= 0 && y < SIDE ? numbers[y * SIDE + x] : NONE;
        }

        int xOf(int point) {
            return point >= 0 && point < count && point < MAX_POINTS ? xs[point] : NONE;
        }

        int yOf(int point) {
            return point >= 0 && point < count && point < MAX_POINTS ? ys[point] : NONE;
        }

        long everyPoint() {
            return count >= MAX_POINTS ? -1L : (1L << count) - 1L;
        }

        boolean holdsAllOf(Plan plan) {
            for (int i = 0; i < plan.guardCount; i++) {
                if (numberAt(plan.guardX(i), plan.guardY(i)) == NONE) {
                    return false;
                }
            }
            for (int i = 0; i < plan.treasureCount; i++) {
                if (numberAt(plan.treasureX(i), plan.treasureY(i)) == NONE) {
                    return false;
                }
            }
            return true;
        }
    }

    /**
     * Which points see one another. Each call of the face that needs it has it learned first: it is dear, and many
     * changes of the polygon are followed by the next one at once.
     */
    private static final class Sight {
        private final Plan plan;
        private final Lattice lattice;
        private final long[] rows = new long[MAX_POINTS];
        private boolean known = false;

        Sight(Plan plan, Lattice lattice) {
            this.plan = plan;
            this.lattice = lattice;
        }

        void forget() {
            known = false;
        }

        void learn() {
            if (known) {
                return;
            }
            known = true;
            for (int p = 0; p < MAX_POINTS; p++) {
                rows[p] = 0L;
            }
            linkPairs(false);
            linkPairs(true);
        }

        /** The near pairs, with no lattice point between them, come first: the far ones are judged by them. */
        private void linkPairs(boolean far) {
            for (int p = 0; p < lattice.count && p < MAX_POINTS; p++) {
                rows[p] |= 1L << p;
                for (int q = 0; q < p; q++) {
                    int pieces = piecesOf(lattice.xOf(q) - lattice.xOf(p), lattice.yOf(q) - lattice.yOf(p));
                    if (far ? pieces > 1 && isChained(p, q, pieces) : pieces == 1 && isClear(p, q)) {
                        rows[p] |= 1L << q;
                        rows[q] |= 1L << p;
                    }
                }
            }
        }

        /**
         * If no edge crosses the segment, the rim can meet or leave it only at vertices and at its own ends. All of
         * these are lattice points, and there are none between its ends: so its middle tells of the whole of it.
         */
        private boolean isClear(int p, int q) {
            int fromX = lattice.xOf(p);
            int fromY = lattice.yOf(p);
            int toX = lattice.xOf(q);
            int toY = lattice.yOf(q);
            for (int i = 0; i < plan.vertexCount; i++) {
                if (Outline.crosses(plan, i, fromX, fromY, toX, toY)) {
                    return false;
                }
            }
            return Outline.placeOf(plan, fromX + toX, fromY + toY) != Outline.OUTSIDE;
        }

        /** Whether each lattice point on the way from p to q sees the next one. */
        private boolean isChained(int p, int q, int pieces) {
            if (pieces < 1) {
                return false;
            }
            int stepX = (lattice.xOf(q) - lattice.xOf(p)) / pieces;
            int stepY = (lattice.yOf(q) - lattice.yOf(p)) / pieces;
            int here = p;
            for (int k = 1; k <= pieces; k++) {
                int next = lattice.numberAt(lattice.xOf(p) + k * stepX, lattice.yOf(p) + k * stepY);
                if (next == NONE || here < 0 || here >= MAX_POINTS || !has(rows[here], next)) {
                    return false;
                }
                here = next;
            }
            return true;
        }

        /** The greatest common divisor, at least 1. */
        private static int piecesOf(int dx, int dy) {
            for (int divisor = SIDE - 1; divisor > 1; divisor--) {
                if (dx % divisor == 0 && dy % divisor == 0) {
                    return divisor;
                }
            }
            return 1;
        }

        long everyPoint() {
            return lattice.everyPoint();
        }

        int pointCount() {
            return Math.min(lattice.count, MAX_POINTS);
        }

        long from(int point) {
            return point >= 0 && point < MAX_POINTS ? rows[point] : 0L;
        }

        long fromAnyOf(long set) {
            long seen = 0L;
            for (int p = 0; p < MAX_POINTS; p++) {
                if (has(set, p)) {
                    seen |= rows[p];
                }
            }
            return seen;
        }

        long fromEdge(int edge) {
            long posts = 0L;
            for (int p = 0; p < pointCount(); p++) {
                if (Outline.liesOn(plan, edge, 1, lattice.xOf(p), lattice.yOf(p))) {
                    posts |= 1L << p;
                }
            }
            return fromAnyOf(posts);
        }

        long seeingAll() {
            long set = 0L;
            for (int p = 0; p < pointCount(); p++) {
                if (from(p) == everyPoint()) {
                    set |= 1L << p;
                }
            }
            return set;
        }

        int links(int point, int other) {
            long reached = 1L << point;
            for (int links = 0; links < MAX_POINTS; links++) {
                if (has(reached, other)) {
                    return links;
                }
                reached = fromAnyOf(reached);
            }
            return NONE;
        }

        int lastReached(int point) {
            long reached = 1L << point;
            for (int links = 0; links < MAX_POINTS; links++) {
                long next = fromAnyOf(reached);
                if (next == everyPoint()) {
                    return Long.numberOfTrailingZeros(next & ~reached);
                }
                reached = next;
            }
            return NONE;
        }

        int mostLinks() {
            int most = 0;
            for (int p = 0; p < pointCount(); p++) {
                most = Math.max(most, links(p, lastReached(p)));
            }
            return most;
        }
    }

    /** The triangles of ear clipping and the three colours, learned by the calls of the face that need them. */
    private static final class Triangulation {
        private static final int COLOURS = 3;

        private final Plan plan;
        private final int[] cut = new int[MAX_TRIANGLES];
        private final int[] low = new int[MAX_TRIANGLES];
        private final int[] middle = new int[MAX_TRIANGLES];
        private final int[] high = new int[MAX_TRIANGLES];
        private final int[] colours = new int[MAX_VERTICES];
        private final int[] ring = new int[MAX_VERTICES];
        private int ringSize = 0;
        private boolean known = false;

        Triangulation(Plan plan) {
            this.plan = plan;
        }

        void forget() {
            known = false;
        }

        int cornerOf(int triangle, int k) {
            if (triangle < 0 || triangle >= MAX_TRIANGLES) {
                return NONE;
            }
            return k == 0 ? low[triangle] : k == 1 ? middle[triangle] : high[triangle];
        }

        int areaOf(int triangle) {
            return Math.abs(Outline.turnOf(plan, cornerOf(triangle, 0), cornerOf(triangle, 1), cornerOf(triangle, 2)));
        }

        int colourOf(int vertex) {
            return vertex >= 0 && vertex < MAX_VERTICES ? colours[vertex] : NONE;
        }

        int rarestColourSet() {
            int best = colourSet(0);
            for (int colour = 1; colour < COLOURS; colour++) {
                int set = colourSet(colour);
                if (Integer.bitCount(set) < Integer.bitCount(best)) {
                    best = set;
                }
            }
            return best;
        }

        private int colourSet(int colour) {
            int set = 0;
            for (int v = 0; v < plan.vertexCount; v++) {
                if (colourOf(v) == colour) {
                    set |= 1 << v;
                }
            }
            return set;
        }

        void learn() {
            if (known) {
                return;
            }
            known = true;
            ringSize = Math.min(plan.vertexCount, MAX_VERTICES);
            for (int v = 0; v < ringSize; v++) {
                ring[v] = v;
            }
            boolean leftwards = Outline.signedArea(plan) > 0;
            int triangles = ringSize - 2;
            for (int t = 0; t < triangles && t < MAX_TRIANGLES; t++) {
                clip(t, firstEar(leftwards));
            }
            paint(triangles);
        }

        /** The place in the ring of the ear with the smallest number: the ring keeps the order of the numbers. */
        private int firstEar(boolean leftwards) {
            for (int at = 0; at < ringSize; at++) {
                int turn = Outline.turnOf(plan, ringAt(at - 1), ringAt(at), ringAt(at + 1));
                if ((leftwards ? turn > 0 : turn < 0) && isFreeOfOthers(at)) {
                    return at;
                }
            }
            return 0;
        }

        private int ringAt(int at) {
            int i = at < 0 ? at + ringSize : at >= ringSize ? at - ringSize : at;
            return i >= 0 && i < MAX_VERTICES ? ring[i] : NONE;
        }

        private boolean isFreeOfOthers(int at) {
            int a = ringAt(at - 1);
            int b = ringAt(at);
            int c = ringAt(at + 1);
            for (int i = 0; i < ringSize; i++) {
                int v = ringAt(i);
                if (v != a && v != b && v != c && inTriangle(v, a, b, c)) {
                    return false;
                }
            }
            return true;
        }

        private boolean inTriangle(int v, int a, int b, int c) {
            int first = Outline.turnOf(plan, a, b, v);
            int second = Outline.turnOf(plan, b, c, v);
            int third = Outline.turnOf(plan, c, a, v);
            return (first >= 0 && second >= 0 && third >= 0) || (first <= 0 && second <= 0 && third <= 0);
        }

        private void clip(int triangle, int at) {
            int a = ringAt(at - 1);
            int b = ringAt(at);
            int c = ringAt(at + 1);
            if (triangle < 0 || triangle >= MAX_TRIANGLES) {
                return;
            }
            cut[triangle] = b;
            low[triangle] = Math.min(a, Math.min(b, c));
            high[triangle] = Math.max(a, Math.max(b, c));
            middle[triangle] = a + b + c - low[triangle] - high[triangle];
            for (int i = at; i >= 0 && i + 1 < ringSize; i++) {
                ring[i] = ring[i + 1];
            }
            ringSize--;
        }

        /** Backwards, each triangle adds just its cut vertex to coloured ones; then the colours get their names. */
        private void paint(int triangles) {
            int last = triangles - 1;
            if (last < 0 || last >= MAX_TRIANGLES) {
                return;
            }
            tint(low[last], 0);
            tint(middle[last], 1);
            tint(high[last], 2);
            for (int t = last - 1; t >= 0; t--) {
                int others = tintOf(low[t]) + tintOf(middle[t]) + tintOf(high[t]) - tintOf(cut[t]);
                tint(cut[t], COLOURS - others);
            }
            int zero = colours[0];
            int one = colours[1];
            for (int v = 0; v < plan.vertexCount && v < MAX_VERTICES; v++) {
                colours[v] = colours[v] == zero ? 0 : colours[v] == one ? 1 : 2;
            }
        }

        private void tint(int vertex, int colour) {
            if (vertex >= 0 && vertex < MAX_VERTICES) {
                colours[vertex] = colour;
            }
        }

        private int tintOf(int vertex) {
            return vertex >= 0 && vertex < MAX_VERTICES ? colours[vertex] : 0;
        }
    }

    /** The fewest vertices, edges and points that see all points. */
    private static final class CoverSearch {
        private static final int UNKNOWN = 0;
        private static final int MOST_NEEDED = 4;

        private final Plan plan;
        private final Lattice lattice;
        private final Sight sight;
        private final long[] views = new long[MAX_VERTICES];
        private final long[] fromHereOn = new long[MAX_POINTS + 1];
        private final int[] picked = new int[MOST_NEEDED];
        private int vertexSet = UNKNOWN;
        private int edgeSet = UNKNOWN;
        private int pickedCount = UNKNOWN;

        CoverSearch(Plan plan, Lattice lattice, Sight sight) {
            this.plan = plan;
            this.lattice = lattice;
            this.sight = sight;
        }

        void forget() {
            vertexSet = UNKNOWN;
            edgeSet = UNKNOWN;
            pickedCount = UNKNOWN;
        }

        int fewestVertices() {
            if (vertexSet == UNKNOWN) {
                for (int v = 0; v < plan.vertexCount && v < MAX_VERTICES; v++) {
                    views[v] = sight.from(lattice.numberAt(plan.cornerX(v), plan.cornerY(v)));
                }
                vertexSet = fewestViews();
            }
            return vertexSet;
        }

        int fewestEdges() {
            if (edgeSet == UNKNOWN) {
                for (int e = 0; e < plan.vertexCount && e < MAX_VERTICES; e++) {
                    views[e] = sight.fromEdge(e);
                }
                edgeSet = fewestViews();
            }
            return edgeSet;
        }

        private int fewestViews() {
            int sets = 1 << Math.min(plan.vertexCount, MAX_VERTICES);
            int best = sets - 1;
            for (int set = 1; set < sets; set++) {
                if (Integer.bitCount(set) < Integer.bitCount(best) && viewOf(set) == lattice.everyPoint()) {
                    best = set;
                }
            }
            return best;
        }

        private long viewOf(int set) {
            long seen = 0L;
            for (int i = 0; i < MAX_VERTICES; i++) {
                if (has(set, i)) {
                    seen |= views[i];
                }
            }
            return seen;
        }

        int pointsNeeded() {
            if (pickedCount != UNKNOWN) {
                return pickedCount;
            }
            fromHereOn[MAX_POINTS] = 0L;
            for (int p = MAX_POINTS - 1; p >= 0; p--) {
                fromHereOn[p] = fromHereOn[p + 1] | sight.from(p);
            }
            for (int size = 1; size <= MOST_NEEDED && pickedCount == UNKNOWN; size++) {
                if (pick(lattice.everyPoint(), 0, size, 0)) {
                    pickedCount = size;
                }
            }
            return pickedCount;
        }

        int pickedPoint(int i) {
            return i >= 0 && i < MOST_NEEDED ? picked[i] : NONE;
        }

        /** Picks points from the given one on that see all that is missing, the smallest first; depth are picked. */
        private boolean pick(long missing, int first, int size, int depth) {
            if (depth >= size || depth >= MOST_NEEDED || first < 0) {
                return false;
            }
            for (int p = first; p < lattice.count && p < MAX_POINTS; p++) {
                if ((missing & ~fromHereOn[p]) != 0L) {
                    return false;
                }
                picked[depth] = p;
                long left = missing & ~sight.from(p);
                if (depth + 1 == size ? left == 0L : pick(left, p + 1, size, depth + 1)) {
                    return true;
                }
            }
            return false;
        }
    }

    /** The largest sets of points that are apart: witnesses and hidden points. */
    private static final class SpreadSearch {
        private static final int UNKNOWN = 0;
        private static final int MOST_WITNESSES = 4;

        private final Sight sight;
        private final long[] sharing = new long[MAX_POINTS];
        private final int[] picked = new int[MOST_WITNESSES];
        private int pickedCount = UNKNOWN;
        private int hiddenCount = UNKNOWN;

        SpreadSearch(Sight sight) {
            this.sight = sight;
        }

        void forget() {
            pickedCount = UNKNOWN;
            hiddenCount = UNKNOWN;
        }

        int mostWitnesses() {
            if (pickedCount != UNKNOWN) {
                return pickedCount;
            }
            for (int p = 0; p < MAX_POINTS; p++) {
                sharing[p] = sight.fromAnyOf(sight.from(p));
            }
            for (int size = MOST_WITNESSES; size >= 1 && pickedCount == UNKNOWN; size--) {
                if (pick(sight.everyPoint(), size, 0)) {
                    pickedCount = size;
                }
            }
            return pickedCount;
        }

        int pickedWitness(int i) {
            return i >= 0 && i < MOST_WITNESSES ? picked[i] : NONE;
        }

        /** Picks points of the open ones of which no two share a point that sees them, the smallest first. */
        private boolean pick(long open, int size, int depth) {
            if (depth >= size || depth >= MOST_WITNESSES) {
                return false;
            }
            long rest = open;
            for (int p = 0; p < MAX_POINTS; p++) {
                if (!has(rest, p)) {
                    continue;
                }
                if (Long.bitCount(rest) < size - depth) {
                    return false;
                }
                picked[depth] = p;
                rest &= ~(1L << p);
                if (depth + 1 == size || pick(rest & ~sharing[p], size, depth + 1)) {
                    return true;
                }
            }
            return false;
        }

        int mostHidden() {
            if (hiddenCount == UNKNOWN) {
                hiddenCount = largestHidden(sight.everyPoint(), 0);
            }
            return hiddenCount;
        }

        /** No triangle holds two hidden points, so the depth never reaches the number of vertices. */
        private int largestHidden(long open, int depth) {
            if (open == 0L || depth >= MAX_VERTICES) {
                return 0;
            }
            long needed = withoutDominated(open);
            long choices = sight.from(leastSeeing(needed)) & needed;
            int best = 0;
            for (int p = 0; p < MAX_POINTS; p++) {
                if (has(choices, p)) {
                    best = Math.max(best, 1 + largestHidden(needed & ~sight.from(p), depth + 1));
                }
            }
            return best;
        }

        /** Drops each point that sees all that another one sees: the other one can always stand in its place. */
        private long withoutDominated(long open) {
            long left = open;
            for (int p = 0; p < MAX_POINTS; p++) {
                if (has(left, p) && isDominated(p, left)) {
                    left &= ~(1L << p);
                }
            }
            return left;
        }

        private boolean isDominated(int point, long open) {
            for (int p = 0; p < MAX_POINTS; p++) {
                if (p != point && has(open, p) && (sight.from(p) & open & ~sight.from(point)) == 0L) {
                    return true;
                }
            }
            return false;
        }

        /** The open point that sees the fewest open points: one of those it sees is in some largest set. */
        private int leastSeeing(long open) {
            int best = NONE;
            int fewest = MAX_POINTS + 1;
            for (int p = 0; p < MAX_POINTS; p++) {
                if (has(open, p) && Long.bitCount(sight.from(p) & open) < fewest) {
                    fewest = Long.bitCount(sight.from(p) & open);
                    best = p;
                }
            }
            return best;
        }
    }

    /** What the present guards watch, and what they could. */
    private static final class Watch {
        private final Plan plan;
        private final Lattice lattice;
        private final Sight sight;

        Watch(Plan plan, Lattice lattice, Sight sight) {
            this.plan = plan;
            this.lattice = lattice;
            this.sight = sight;
        }

        int postOf(int guard) {
            return lattice.numberAt(plan.guardX(guard), plan.guardY(guard));
        }

        int placeOfTreasure(int treasure) {
            return lattice.numberAt(plan.treasureX(treasure), plan.treasureY(treasure));
        }

        private long within(int post, int reach) {
            long seen = sight.from(post);
            long set = 0L;
            for (int p = 0; p < lattice.count && p < MAX_POINTS; p++) {
                int dx = lattice.xOf(p) - lattice.xOf(post);
                int dy = lattice.yOf(p) - lattice.yOf(post);
                if (has(seen, p) && dx * dx + dy * dy <= reach * reach) {
                    set |= 1L << p;
                }
            }
            return set;
        }

        long byGuard(int guard) {
            return within(postOf(guard), plan.reachOf(guard));
        }

        /** What the guards without one of them watch; without NONE, what all of them watch. */
        long byAllBut(int guard) {
            long set = 0L;
            for (int g = 0; g < plan.guardCount; g++) {
                if (g != guard) {
                    set |= byGuard(g);
                }
            }
            return set;
        }

        int guardsOn(int point) {
            int count = 0;
            for (int g = 0; g < plan.guardCount; g++) {
                if (has(byGuard(g), point)) {
                    count++;
                }
            }
            return count;
        }

        int spareGuards() {
            long lit = byAllBut(NONE);
            int set = 0;
            for (int g = 0; g < plan.guardCount; g++) {
                if (byAllBut(g) == lit) {
                    set |= 1 << g;
                }
            }
            return set;
        }

        int bestPostFor(long dark) {
            int best = 0;
            for (int p = 1; p < lattice.count; p++) {
                if (Long.bitCount(sight.from(p) & dark) > Long.bitCount(sight.from(best) & dark)) {
                    best = p;
                }
            }
            return best;
        }

        int greedyCount() {
            long dark = lattice.everyPoint() & ~byAllBut(NONE);
            int added = 0;
            for (int round = 0; round < MAX_POINTS && dark != 0L; round++) {
                // the range 99 reaches across the whole square, so such a guard watches all it sees
                dark &= ~sight.from(bestPostFor(dark));
                added++;
            }
            return added;
        }

        int valueIn(long lit) {
            int sum = 0;
            for (int t = 0; t < plan.treasureCount; t++) {
                int place = placeOfTreasure(t);
                if (place != NONE && has(lit, place)) {
                    sum += plan.worthOf(t);
                }
            }
            return sum;
        }

        int valueAfterBestMove() {
            int best = valueIn(byAllBut(NONE));
            for (int g = 0; g < plan.guardCount; g++) {
                long others = byAllBut(g);
                for (int p = 0; p < lattice.count; p++) {
                    best = Math.max(best, valueIn(others | within(p, plan.reachOf(g))));
                }
            }
            return best;
        }
    }
}

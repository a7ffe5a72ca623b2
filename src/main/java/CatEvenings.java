import java.util.ArrayList;
import java.util.List;

/** A cat that plays chess with its paws. */
public final class CatEvenings {
    private static final int SIDE = 8;
    private static final int HEADINGS = 8;
    private static final int MOST_PIECES = 16;
    private static final int MOST_EVENINGS = 60;
    private static final int NONE = -1;
    private static final int LYING_MARK = 100;
    private static final long DIGEST_START = 2251L;

    private static final int STEP = 0;
    private static final int KNOCK = 1;
    private static final int SET_UP = 2;
    private static final int PUSH = 3;

    private static final int[] COLUMN_STEPS = {0, 1, 1, 1, 0, -1, -1, -1};
    private static final int[] ROW_STEPS = {1, 1, 0, -1, -1, -1, 0, 1};

    private final List<Evening> tree;
    private Evening now;

    public CatEvenings() {
        now = new Evening(null, 0, NONE, NONE, new Scene(0, new int[0], 0));
        tree = new ArrayList<>();
        tree.add(now);
    }

    // ---- pieces and paws

    public int setPiece(int column, int row) throws IllegalArgumentException, IllegalStateException {
        int place = boardPlace(column, row);
        int piece = now.scene.places.length;
        if (piece >= MOST_PIECES) {
            throw new IllegalStateException("no more pieces");
        }
        if (tree.size() > 1) {
            throw new IllegalStateException("a paw was done already");
        }
        if (now.scene.pieceOn(place) != NONE) {
            throw new IllegalStateException("another piece is there");
        }
        now.scene = now.scene.withPieceOn(place);
        return piece;
    }

    public int paw(int kind, int number) throws IllegalArgumentException, IllegalStateException {
        Scene next = sceneAfter(kind, number);
        if (next == null) {
            throw new IllegalStateException("the paw is refused");
        }
        if (tree.size() >= MOST_EVENINGS) {
            throw new IllegalStateException("no more evenings");
        }
        Evening made = new Evening(now, tree.size(), kind, number, next);
        tree.add(made);
        made.countAbove();
        made.pointToFromAbove();
        now = made;
        return made.label;
    }

    /** What stands above the evening of now leads back to it already, so nothing is noted on the way. */
    public int undo(int many) throws IllegalArgumentException, IllegalStateException {
        checkMany(many);
        Evening reached = now;
        for (int done = 0; done < many; done++) {
            if (reached.parent == null) {
                throw new IllegalStateException("fewer paws were done");
            }
            reached = reached.parent;
        }
        now = reached;
        return now.label;
    }

    public int redo(int many) throws IllegalArgumentException, IllegalStateException {
        checkMany(many);
        Evening reached = now;
        for (int done = 0; done < many; done++) {
            if (reached.latestChild == null) {
                throw new IllegalStateException("nothing to do again");
            }
            reached = reached.latestChild;
        }
        now = reached;
        return now.label;
    }

    public int goTo(int evening) throws IndexOutOfBoundsException {
        Evening target = existing(evening);
        int paws = wayLength(now, target);
        target.pointToFromAbove();
        now = target;
        return paws;
    }

    // ---- now

    public int evening() {
        return now.label;
    }

    public int evenings() {
        return tree.size();
    }

    public int pieces() {
        return now.scene.places.length;
    }

    public int catColumn() {
        return now.scene.cat / SIDE;
    }

    public int catRow() {
        return now.scene.cat % SIDE;
    }

    public int lying() {
        return now.scene.countLying();
    }

    public int placeOf(int piece) throws IndexOutOfBoundsException {
        return placeInScene(now.scene, piece);
    }

    public boolean lies(int piece) throws IndexOutOfBoundsException {
        if (!now.scene.has(piece)) {
            throw new IndexOutOfBoundsException("no such piece");
        }
        return now.scene.isLying(piece);
    }

    public int pieceAt(int column, int row) throws IllegalArgumentException {
        return now.scene.pieceOn(boardPlace(column, row));
    }

    public boolean canDo(int kind, int number) throws IllegalArgumentException {
        return sceneAfter(kind, number) != null;
    }

    // ---- the tree

    public int hangsOn(int evening) throws IndexOutOfBoundsException {
        return labelOf(existing(evening).parent);
    }

    public int kindOf(int evening) throws IndexOutOfBoundsException {
        return existing(evening).kind;
    }

    public int numberOf(int evening) throws IndexOutOfBoundsException {
        return existing(evening).number;
    }

    public int depthOf(int evening) throws IndexOutOfBoundsException {
        return existing(evening).depth;
    }

    public int branches(int evening) throws IndexOutOfBoundsException {
        return existing(evening).children;
    }

    public int behind(int evening) throws IndexOutOfBoundsException {
        return existing(evening).descendants;
    }

    public int again(int evening) throws IndexOutOfBoundsException {
        return labelOf(existing(evening).latestChild);
    }

    public int meet(int one, int other) throws IndexOutOfBoundsException {
        return meetingOf(existing(one), existing(other)).label;
    }

    public int apart(int one, int other) throws IndexOutOfBoundsException {
        return wayLength(existing(one), existing(other));
    }

    public int ends() {
        int count = 0;
        for (int i = 0; i < tree.size(); i++) {
            if (tree.get(i).isEnd()) {
                count++;
            }
        }
        return count;
    }

    // ---- what was

    public int placeIn(int evening, int piece) throws IndexOutOfBoundsException {
        Scene scene = existing(evening).scene;
        int place = placeInScene(scene, piece);
        return scene.isLying(piece) ? place + LYING_MARK : place;
    }

    public int lyingIn(int evening) throws IndexOutOfBoundsException {
        return existing(evening).scene.countLying();
    }

    public boolean areAlike(int one, int other) throws IndexOutOfBoundsException {
        Scene first = existing(one).scene;
        Scene second = existing(other).scene;
        return first.isLike(second);
    }

    public int mostKnocked() {
        int best = NONE;
        int most = -1;
        for (int piece = 0; piece < pieces(); piece++) {
            int knocks = knocksOf(piece);
            if (knocks > most) {
                most = knocks;
                best = piece;
            }
        }
        return best;
    }

    public double meanDepth() {
        int count = 0;
        int sum = 0;
        for (int i = 0; i < tree.size(); i++) {
            Evening each = tree.get(i);
            if (each.isEnd()) {
                count++;
                sum += each.depth;
            }
        }
        return count == 0 ? 0.0 : (double) sum / count;
    }

    public long digest() {
        long d = DIGEST_START;
        d = mixed(d, evening());
        d = mixed(d, evenings());
        d = mixed(d, pieces());
        d = mixed(d, catColumn());
        d = mixed(d, catRow());
        d = mixed(d, lying());
        d = mixed(d, ends());
        d = mixed(d, mostKnocked());
        for (int piece = 0; piece < pieces(); piece++) {
            d = mixed(d, placeOf(piece));
            d = mixed(d, lies(piece) ? 1 : 0);
        }
        for (int i = 0; i < tree.size(); i++) {
            d = withEvening(d, tree.get(i));
        }
        return d;
    }

    private long withEvening(long start, Evening each) {
        long d = start;
        d = mixed(d, labelOf(each.parent));
        d = mixed(d, each.kind);
        d = mixed(d, each.number);
        d = mixed(d, each.depth);
        d = mixed(d, each.children);
        d = mixed(d, each.descendants);
        d = mixed(d, labelOf(each.latestChild));
        d = mixed(d, each.scene.countLying());
        d = mixed(d, wayLength(each, now));
        return mixed(d, each.scene.isLike(now.scene) ? 1 : 0);
    }

    private static long mixed(long d, long x) {
        return d * 31 + x;
    }

    private Evening existing(int evening) {
        if (evening < 0 || evening >= tree.size()) {
            throw new IndexOutOfBoundsException("no such evening");
        }
        return tree.get(evening);
    }

    private Scene sceneAfter(int kind, int number) {
        if (!isPaw(kind, number)) {
            throw new IllegalArgumentException("no such paw");
        }
        return now.scene.after(kind, number);
    }

    private int knocksOf(int piece) {
        int knocks = 0;
        for (int i = 0; i < tree.size(); i++) {
            Evening each = tree.get(i);
            if (each.kind == KNOCK && each.number == piece) {
                knocks++;
            }
        }
        return knocks;
    }

    private static int placeInScene(Scene scene, int piece) {
        if (!scene.has(piece)) {
            throw new IndexOutOfBoundsException("no such piece");
        }
        return scene.places[piece];
    }

    private static int labelOf(Evening evening) {
        return evening == null ? NONE : evening.label;
    }

    private static void checkMany(int many) {
        if (many < 1 || many > MOST_EVENINGS) {
            throw new IllegalArgumentException("many is not 1 to 60");
        }
    }

    private static boolean isPaw(int kind, int number) {
        switch (kind) {
            case STEP:
            case PUSH:
                return number >= 0 && number < HEADINGS;
            case KNOCK:
            case SET_UP:
                return number >= 0 && number < MOST_PIECES;
            default:
                return false;
        }
    }

    private static boolean isOnBoard(int column, int row) {
        return column >= 0 && column < SIDE && row >= 0 && row < SIDE;
    }

    private static int boardPlace(int column, int row) {
        if (!isOnBoard(column, row)) {
            throw new IllegalArgumentException("column or row is not 0 to 7");
        }
        return column * SIDE + row;
    }

    /** The place one farther in the heading; NONE beyond the board, and from NONE. */
    private static int farther(int place, int heading) {
        if (place < 0 || heading < 0 || heading >= COLUMN_STEPS.length || heading >= ROW_STEPS.length) {
            return NONE;
        }
        int column = place / SIDE + COLUMN_STEPS[heading];
        int row = place % SIDE + ROW_STEPS[heading];
        return isOnBoard(column, row) ? column * SIDE + row : NONE;
    }

    /** An evening has a higher number than those above it, so the higher of two is never above the other. */
    private static Evening meetingOf(Evening one, Evening other) {
        Evening a = one;
        Evening b = other;
        for (int climbed = 0; a != b && climbed < 2 * MOST_EVENINGS; climbed++) {
            if (a.label > b.label) {
                a = a.above();
            } else {
                b = b.above();
            }
        }
        return a;
    }

    private static int wayLength(Evening one, Evening other) {
        return one.depth + other.depth - 2 * meetingOf(one, other).depth;
    }

    /** One evening of the tree; only the evening 0 has no parent. */
    private static final class Evening {
        final Evening parent;
        final int label;
        final int kind;
        final int number;
        final int depth;
        Scene scene;
        Evening latestChild;
        int children;
        int descendants;

        Evening(Evening parent, int label, int kind, int number, Scene scene) {
            this.parent = parent;
            this.label = label;
            this.kind = kind;
            this.number = number;
            this.depth = parent == null ? 0 : parent.depth + 1;
            this.scene = scene;
        }

        Evening above() {
            return parent == null ? this : parent;
        }

        boolean isEnd() {
            return latestChild == null;
        }

        void countAbove() {
            if (parent != null) {
                parent.children++;
            }
            for (Evening each = parent; each != null; each = each.parent) {
                each.descendants++;
            }
        }

        /**
         * Coming here enters all that stand between the meeting with the evening of now and this one;
         * above the meeting the pointers lead this way already, so it does no harm to set those too.
         */
        void pointToFromAbove() {
            Evening child = this;
            for (Evening each = parent; each != null; each = each.parent) {
                each.latestChild = child;
                child = each;
            }
        }
    }

    /** How cat and pieces stand; it never changes, so that undoing needs no way back and evenings can share it. */
    private static final class Scene {
        final int cat;
        final int[] places;
        final int lyingBits;

        Scene(int cat, int[] places, int lyingBits) {
            this.cat = cat;
            this.places = places;
            this.lyingBits = lyingBits;
        }

        boolean has(int piece) {
            return piece >= 0 && piece < places.length;
        }

        boolean isLying(int piece) {
            return has(piece) && (lyingBits >> piece & 1) == 1;
        }

        boolean isStanding(int piece) {
            return has(piece) && !isLying(piece);
        }

        int countLying() {
            return Integer.bitCount(lyingBits);
        }

        int pieceOn(int place) {
            for (int piece = 0; piece < places.length; piece++) {
                if (places[piece] == place) {
                    return piece;
                }
            }
            return NONE;
        }

        boolean isLike(Scene other) {
            if (cat != other.cat || lyingBits != other.lyingBits || places.length != other.places.length) {
                return false;
            }
            for (int piece = 0; piece < places.length && piece < other.places.length; piece++) {
                if (places[piece] != other.places[piece]) {
                    return false;
                }
            }
            return true;
        }

        Scene withPieceOn(int place) {
            int[] more = new int[places.length + 1];
            System.arraycopy(places, 0, more, 0, places.length);
            more[places.length] = place;
            return new Scene(cat, more, lyingBits);
        }

        /** The scene behind the paw; null if the paw is refused. */
        Scene after(int kind, int number) {
            switch (kind) {
                case STEP:
                    return afterStep(number);
                case KNOCK:
                    return afterKnock(number);
                case SET_UP:
                    return afterSetUp(number);
                case PUSH:
                    return afterPush(number);
                default:
                    return null;
            }
        }

        private Scene afterStep(int heading) {
            int place = farther(cat, heading);
            return place == NONE ? null : new Scene(place, places, lyingBits);
        }

        private Scene afterKnock(int piece) {
            if (!isStanding(piece) || !isInReach(piece)) {
                return null;
            }
            return new Scene(cat, places, lyingBits | 1 << piece);
        }

        private Scene afterSetUp(int piece) {
            if (!isLying(piece) || !isInReach(piece)) {
                return null;
            }
            return new Scene(cat, places, lyingBits & ~(1 << piece));
        }

        private Scene afterPush(int heading) {
            int from = farther(cat, heading);
            int to = farther(from, heading);
            int piece = pieceOn(from);
            if (!has(piece) || isLying(piece) || to == NONE || pieceOn(to) != NONE) {
                return null;
            }
            int[] moved = places.clone();
            moved[piece] = to;
            return new Scene(from, moved, lyingBits);
        }

        /** The cat reaches its own place too: it can stand on a piece's place. */
        private boolean isInReach(int piece) {
            if (!has(piece)) {
                return false;
            }
            int columns = Math.abs(places[piece] / SIDE - cat / SIDE);
            int rows = Math.abs(places[piece] % SIDE - cat % SIDE);
            return columns <= 1 && rows <= 1;
        }
    }
}

import java.util.ArrayList;
import java.util.List;

/**
 * The document's words in their most literal form, to compare the class with: it keeps just the paws, plays each
 * evening anew from the evening 0, and notes when one was in an evening.
 */
final class Model {
    private final List<int[]> pieces = new ArrayList<>();
    private final List<Integer> above = new ArrayList<>(List.of(-1));
    private final List<Integer> kinds = new ArrayList<>(List.of(-1));
    private final List<Integer> numbers = new ArrayList<>(List.of(-1));
    private final List<Long> lastIn = new ArrayList<>(List.of(0L));
    private int now = 0;
    private long clock = 0;

    /** A board played up to one evening. */
    private static final class Board {
        int column = 0;
        int row = 0;
        int[][] at;
        boolean[] lies;
    }

    private Board board(int evening) {
        Board board;
        if (evening == 0) {
            board = new Board();
            board.at = pieces.stream().map(int[]::clone).toArray(int[][]::new);
            board.lies = new boolean[pieces.size()];
        } else {
            board = board(above.get(evening));
            if (!play(board, kinds.get(evening), numbers.get(evening))) {
                throw new AssertionError("an evening whose paw is refused");
            }
        }
        return board;
    }

    private static int[] heading(int number) {
        return switch (number) {
            case 0 -> new int[] {0, 1};
            case 1 -> new int[] {1, 1};
            case 2 -> new int[] {1, 0};
            case 3 -> new int[] {1, -1};
            case 4 -> new int[] {0, -1};
            case 5 -> new int[] {-1, -1};
            case 6 -> new int[] {-1, 0};
            default -> new int[] {-1, 1};
        };
    }

    private static boolean inside(int column, int row) {
        return 0 <= Math.min(column, row) && Math.max(column, row) <= 7;
    }

    private static int find(Board board, int column, int row) {
        for (int p = 0; p < board.at.length; p++) {
            if (board.at[p][0] == column && board.at[p][1] == row) {
                return p;
            }
        }
        return -1;
    }

    /** Plays the paw on the board; false if it is refused. */
    private static boolean play(Board board, int kind, int number) {
        if (kind == 1 || kind == 2) {
            boolean near = number < board.at.length && Math.abs(board.at[number][0] - board.column) < 2
                && Math.abs(board.at[number][1] - board.row) < 2;
            if (!near || board.lies[number] != (kind == 2)) {
                return false;
            }
            board.lies[number] = kind == 1;
            return true;
        }
        int[] by = heading(number);
        int column = board.column + by[0];
        int row = board.row + by[1];
        if (kind == 3) {
            int piece = find(board, column, row);
            if (piece < 0 || board.lies[piece] || !inside(column + by[0], row + by[1])
                || find(board, column + by[0], row + by[1]) >= 0) {
                return false;
            }
            board.at[piece] = new int[] {column + by[0], row + by[1]};
        } else if (!inside(column, row)) {
            return false;
        }
        board.column = column;
        board.row = row;
        return true;
    }

    private void comeTo(int evening) {
        now = evening;
        lastIn.set(evening, ++clock);
    }

    private void checkEvening(int evening) {
        if (evening < 0 || evening >= above.size()) {
            throw new IndexOutOfBoundsException();
        }
    }

    private void checkPiece(int piece) {
        if (piece < 0 || piece >= pieces.size()) {
            throw new IndexOutOfBoundsException();
        }
    }

    private static void checkPlace(int column, int row) {
        if (!inside(column, row)) {
            throw new IllegalArgumentException();
        }
    }

    private static void checkPaw(int kind, int number) {
        if (kind < 0 || kind > 3 || number < 0 || number > (kind % 3 == 0 ? 7 : 15)) {
            throw new IllegalArgumentException();
        }
    }

    private static void checkMany(int many) {
        if (many < 1 || many > 60) {
            throw new IllegalArgumentException();
        }
    }

    int setPiece(int column, int row) {
        checkPlace(column, row);
        if (pieces.size() == 16 || above.size() != 1 || pieceAt(column, row) != -1) {
            throw new IllegalStateException();
        }
        pieces.add(new int[] {column, row});
        return pieces.size() - 1;
    }

    int paw(int kind, int number) {
        if (!canDo(kind, number) || above.size() == 60) {
            throw new IllegalStateException();
        }
        above.add(now);
        kinds.add(kind);
        numbers.add(number);
        lastIn.add(0L);
        comeTo(above.size() - 1);
        return now;
    }

    int undo(int many) {
        checkMany(many);
        if (depthOf(now) < many) {
            throw new IllegalStateException();
        }
        for (int i = 0; i < many; i++) {
            comeTo(above.get(now));
        }
        return now;
    }

    int redo(int many) {
        checkMany(many);
        int at = now;
        for (int i = 0; i < many; i++) {
            at = again(at);
            if (at == -1) {
                throw new IllegalStateException();
            }
        }
        for (int i = 0; i < many; i++) {
            comeTo(again(now));
        }
        return now;
    }

    int goTo(int evening) {
        checkEvening(evening);
        int top = meet(now, evening);
        int paws = apart(now, evening);
        while (now != top) {
            comeTo(above.get(now));
        }
        List<Integer> down = new ArrayList<>();
        for (int e = evening; e != top; e = above.get(e)) {
            down.add(0, e);
        }
        down.forEach(this::comeTo);
        return paws;
    }

    int evening() {
        return now;
    }

    int evenings() {
        return above.size();
    }

    int pieces() {
        return pieces.size();
    }

    int catColumn() {
        return board(now).column;
    }

    int catRow() {
        return board(now).row;
    }

    int lying() {
        return lyingIn(now);
    }

    int placeOf(int piece) {
        checkPiece(piece);
        return placeIn(now, piece) % 100;
    }

    boolean lies(int piece) {
        checkPiece(piece);
        return board(now).lies[piece];
    }

    int pieceAt(int column, int row) {
        checkPlace(column, row);
        return find(board(now), column, row);
    }

    boolean canDo(int kind, int number) {
        checkPaw(kind, number);
        return play(board(now), kind, number);
    }

    int hangsOn(int evening) {
        checkEvening(evening);
        return above.get(evening);
    }

    int kindOf(int evening) {
        checkEvening(evening);
        return kinds.get(evening);
    }

    int numberOf(int evening) {
        checkEvening(evening);
        return numbers.get(evening);
    }

    /** The evening and all on which it hangs, the evening 0 last. */
    private List<Integer> up(int evening) {
        checkEvening(evening);
        List<Integer> line = new ArrayList<>();
        for (int e = evening; e != -1; e = above.get(e)) {
            line.add(e);
        }
        return line;
    }

    int depthOf(int evening) {
        return up(evening).size() - 1;
    }

    int branches(int evening) {
        checkEvening(evening);
        return (int) above.stream().filter(e -> e == evening).count();
    }

    int behind(int evening) {
        checkEvening(evening);
        int count = 0;
        for (int e = 0; e < above.size(); e++) {
            count += e != evening && up(e).contains(evening) ? 1 : 0;
        }
        return count;
    }

    int again(int evening) {
        checkEvening(evening);
        int last = -1;
        for (int e = 0; e < above.size(); e++) {
            if (above.get(e) == evening && (last == -1 || lastIn.get(e) > lastIn.get(last))) {
                last = e;
            }
        }
        return last;
    }

    int meet(int one, int other) {
        List<Integer> common = up(one);
        common.retainAll(up(other));
        return common.get(0);
    }

    int apart(int one, int other) {
        List<Integer> ups = up(one);
        List<Integer> downs = up(other);
        int common = ups.stream().filter(downs::contains).toList().size();
        return ups.size() - common + downs.size() - common;
    }

    int ends() {
        int count = 0;
        for (int e = 0; e < above.size(); e++) {
            count += branches(e) == 0 ? 1 : 0;
        }
        return count;
    }

    int placeIn(int evening, int piece) {
        checkEvening(evening);
        checkPiece(piece);
        Board board = board(evening);
        return 8 * board.at[piece][0] + board.at[piece][1] + (board.lies[piece] ? 100 : 0);
    }

    int lyingIn(int evening) {
        checkEvening(evening);
        int count = 0;
        for (boolean lies : board(evening).lies) {
            count += lies ? 1 : 0;
        }
        return count;
    }

    boolean areAlike(int one, int other) {
        checkEvening(one);
        checkEvening(other);
        Board first = board(one);
        Board second = board(other);
        return first.column == second.column && first.row == second.row
            && java.util.Arrays.deepEquals(first.at, second.at) && java.util.Arrays.equals(first.lies, second.lies);
    }

    int mostKnocked() {
        int[] knocks = new int[16];
        for (int e = 0; e < above.size(); e++) {
            if (kinds.get(e) == 1) {
                knocks[numbers.get(e)]++;
            }
        }
        int best = pieces.isEmpty() ? -1 : 0;
        for (int p = 1; p < pieces.size(); p++) {
            best = knocks[p] > knocks[best] ? p : best;
        }
        return best;
    }

    double meanDepth() {
        double sum = 0;
        for (int e = 0; e < above.size(); e++) {
            sum += branches(e) == 0 ? depthOf(e) : 0;
        }
        return sum / ends();
    }

    long digest() {
        List<Integer> all = new ArrayList<>(List.of(evening(), evenings(), pieces(), catColumn(), catRow(), lying(),
            ends(), mostKnocked()));
        for (int p = 0; p < pieces(); p++) {
            all.add(placeOf(p));
            all.add(lies(p) ? 1 : 0);
        }
        for (int e = 0; e < evenings(); e++) {
            all.addAll(List.of(hangsOn(e), kindOf(e), numberOf(e), depthOf(e), branches(e), behind(e), again(e),
                lyingIn(e), apart(e, now), areAlike(e, now) ? 1 : 0));
        }
        long d = 2251;
        for (int x : all) {
            d = d * 31 + x;
        }
        return d;
    }
}

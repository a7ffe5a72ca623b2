import java.util.ArrayList;
import java.util.List;
import java.util.Set;
import java.util.TreeSet;
import java.util.function.Function;

/**
 * The sentences of "What it is" and "Terms" that hold of several promises at once. What is quoted ahead of a test is
 * the sentence that it holds.
 */
public final class TermsTest {
    private static final int STEP = Situation.STEP;
    private static final int KNOCK = Situation.KNOCK;
    private static final int SET_UP = Situation.SET_UP;
    private static final int PUSH = Situation.PUSH;
    private static final int LAST_CALL = 512;

    private static final Situation FOUR_PIECES = Situation.NEW.then("4 pieces", cat -> {
        cat.setPiece(2, 0);
        cat.setPiece(0, 1);
        cat.setPiece(1, 0);
        cat.setPiece(3, 1);
    });

    /** The evening to which one comes first, and the kind and the number of the paw that is done there. */
    private static final int[][] RUN = {
        {0, KNOCK, 1}, {1, STEP, 0}, {1, SET_UP, 1}, {3, PUSH, 0}, {4, KNOCK, 2}, {0, STEP, 1}, {6, KNOCK, 0},
        {6, STEP, 2}, {8, PUSH, 2}, {2, STEP, 4}, {0, KNOCK, 1}, {9, KNOCK, 3}, {9, STEP, 2}};

    private static final Check CHECK = new Check();

    public static void main(String[] args) {
        whatItIsThe512thCall();
        whatItIsNothingIsLost();
        whatItIsTheEveningBranches();
        promise1EachObjectStandsAlone();
        termsNoTwoPiecesAtOnePlace();
        termsTwoEveningsWay();
        termsWayByUndoingAndDoingAgain();
        CHECK.end();
    }

    private static void due(String call, Object got, Object want) {
        CHECK.due(call, got, want);
    }

    private static Situation afterPaws(int many) {
        return FOUR_PIECES.then(many + " paws of the run", cat -> {
            for (int i = 0; i < many; i++) {
                cat.goTo(RUN[i][0]);
                cat.paw(RUN[i][1], RUN[i][2]);
            }
        });
    }

    // ---- what it is

    /** What it is: "An object is used for at most 512 calls after it has been made": the 512th answers as due. */
    private static void whatItIsThe512thCall() {
        lastCall("setPiece(5, 5)", 0, cat -> cat.setPiece(5, 5));
        lastCall("paw(0, 1)", 1, cat -> cat.paw(STEP, 1));
        lastCall("canDo(0, 4)", false, cat -> cat.canDo(STEP, 4));
        lastCall("undo(1)", "IllegalStateException", cat -> cat.undo(1));
        lastCall("placeOf(0)", "IndexOutOfBoundsException", cat -> cat.placeOf(0));
        lastCall("digest()", new CatEvenings().digest(), CatEvenings::digest);
    }

    private static void lastCall(String call, Object want, Function<CatEvenings, Object> last) {
        CatEvenings cat = new CatEvenings();
        for (int calls = 1; calls < LAST_CALL; calls++) {
            cat.goTo(0);
        }
        due(call + ", the 512th call", Check.answer(() -> last.apply(cat)), want);
    }

    /**
     * What it is: "nothing is lost in a tree of evenings; and one can ask how the board stood in any evening, what was
     * done": behind each paw of the run all evenings stand as they stood when they were made.
     */
    private static void whatItIsNothingIsLost() {
        for (int many = 0; many <= RUN.length; many++) {
            Situation later = afterPaws(many);
            for (int evening = 0; evening <= many; evening++) {
                List<Integer> made = boardOfNow(afterPaws(evening).make());
                CatEvenings cat = later.make();
                String of = later.name() + ": the evening " + evening;
                due(of + " by placeIn() and lyingIn()", piecesIn(cat, evening), made.subList(2, made.size()));
                due(of + " by goTo()", boardOfNow(goneTo(cat, evening)), made);
                due(of + ": hangsOn()", cat.hangsOn(evening), evening == 0 ? -1 : RUN[evening - 1][0]);
                due(of + ": kindOf()", cat.kindOf(evening), evening == 0 ? -1 : RUN[evening - 1][1]);
                due(of + ": numberOf()", cat.numberOf(evening), evening == 0 ? -1 : RUN[evening - 1][2]);
            }
        }
    }

    private static CatEvenings goneTo(CatEvenings cat, int evening) {
        cat.goTo(evening);
        return cat;
    }

    /** The cat's column and row, how many lie, and each piece's place, 100 more if it lies. */
    private static List<Integer> boardOfNow(CatEvenings cat) {
        List<Integer> board = new ArrayList<>(List.of(cat.catColumn(), cat.catRow(), cat.lying()));
        for (int piece = 0; piece < cat.pieces(); piece++) {
            board.add(cat.placeOf(piece) + (cat.lies(piece) ? 100 : 0));
        }
        return board;
    }

    private static List<Integer> piecesIn(CatEvenings cat, int evening) {
        List<Integer> board = new ArrayList<>(List.of(cat.lyingIn(evening)));
        for (int piece = 0; piece < cat.pieces(); piece++) {
            board.add(cat.placeIn(evening, piece));
        }
        return board;
    }

    /** What it is: "where something else is done behind what was undone, the evening branches". */
    private static void whatItIsTheEveningBranches() {
        for (int undone = 1; undone <= 5; undone++) {
            CatEvenings cat = new CatEvenings();
            Situation.walk(cat, 0, 0, 0, 0, 0);
            int from = cat.undo(undone);
            due("something else behind " + undone + " undone", cat.paw(STEP, 2), 6);
            due("branches(" + from + ")", cat.branches(from), 2);
            due("hangsOn(6)", cat.hangsOn(6), from);
            due("hangsOn of what was undone", cat.hangsOn(from + 1), from);
            due("behind(" + from + ")", cat.behind(from), undone + 1);
            due("evenings()", cat.evenings(), 7);
        }
    }

    /** Promise 1: "Creates an empty board", of its own: what is done with one object changes no other. */
    private static void promise1EachObjectStandsAlone() {
        CatEvenings one = new CatEvenings();
        CatEvenings other = new CatEvenings();
        one.setPiece(0, 1);
        due("pieces() of the other", other.pieces(), 0);
        due("setPiece(0, 1) of the other", other.setPiece(0, 1), 0);
        one.paw(PUSH, 0);
        due("evenings() of the other", other.evenings(), 1);
        due("placeOf(0) of the other", other.placeOf(0), 1);
        due("paw(1, 0) of the other", other.paw(KNOCK, 0), 1);
        due("kindOf(1) of the one", one.kindOf(1), PUSH);
        due("lies(0) of the one", one.lies(0), false);
        new CatEvenings().paw(STEP, 0);
        due("evening() of the one", one.evening(), 1);
        due("catRow() of the one", one.catRow(), 1);
    }

    // ---- terms

    /** Terms: "each has a place, at which no other one stands", behind each push from each place among 16 pieces. */
    private static void termsNoTwoPiecesAtOnePlace() {
        for (int place = 0; place < 64; place++) {
            for (int heading = 0; heading < 8; heading++) {
                CatEvenings cat = Situation.SIXTEEN_PIECES.make();
                Situation.walkTo(cat, place / 8, place % 8);
                int number = heading;
                Check.answer(() -> cat.paw(PUSH, number));
                Set<Integer> places = new TreeSet<>();
                for (int piece = 0; piece < 16; piece++) {
                    places.add(cat.placeOf(piece));
                }
                due("places behind a push of heading " + heading + " from " + place, places.size(), 16);
            }
        }
    }

    /**
     * Terms: "Two evenings' way: from the one up .. to the last one on which both hang .. and down to the other one";
     * goTo(), apart(), meet() and depthOf() tell of the same way, for each two evenings of the run.
     */
    private static void termsTwoEveningsWay() {
        for (int one = 0; one <= RUN.length; one++) {
            CatEvenings told = afterPaws(RUN.length).make();
            for (int other = 0; other <= RUN.length; other++) {
                List<Integer> up = upFrom(one);
                List<Integer> down = upFrom(other);
                up.removeAll(upFrom(other));
                down.removeAll(upFrom(one));
                int meet = up.isEmpty() ? one : hangsOn(up.get(up.size() - 1));
                String way = "(" + one + ", " + other + ")";
                due("meet" + way, told.meet(one, other), meet);
                due("apart" + way, told.apart(one, other), up.size() + down.size());
                CatEvenings gone = goneTo(afterPaws(RUN.length).make(), one);
                due("goTo, " + way, gone.goTo(other), up.size() + down.size());
                due("evening() behind goTo, " + way, gone.evening(), other);
            }
        }
    }

    private static int hangsOn(int evening) {
        return evening == 0 ? -1 : RUN[evening - 1][0];
    }

    /** The evening itself, and those on which it hangs, the evening 0 last. */
    private static List<Integer> upFrom(int evening) {
        List<Integer> line = new ArrayList<>();
        for (int e = evening; e != -1; e = hangsOn(e)) {
            line.add(e);
        }
        return line;
    }

    /**
     * What it is: "how to come from one evening to another"; Terms: "Undoing comes back to the evening on which that of
     * now hangs. Doing again comes .. to .. that in which one was the last": so both come over the way as goTo() does.
     */
    private static void termsWayByUndoingAndDoingAgain() {
        for (int one = 0; one <= RUN.length; one++) {
            for (int other = 0; other <= RUN.length; other++) {
                CatEvenings cat = afterPaws(RUN.length).make();
                cat.goTo(other);
                cat.goTo(one);
                int meet = cat.meet(one, other);
                int up = cat.depthOf(one) - cat.depthOf(meet);
                int down = cat.depthOf(other) - cat.depthOf(meet);
                String way = "from " + one + " to " + other;
                if (up > 0) {
                    due("undoing " + way, cat.undo(up), meet);
                    due("doing again on the way back " + way, cat.redo(up), one);
                }
                cat.goTo(other);
                cat.goTo(meet);
                if (down > 0) {
                    due("doing again " + way, cat.redo(down), other);
                }
            }
        }
    }
}

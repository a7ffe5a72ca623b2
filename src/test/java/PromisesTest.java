import java.util.function.IntConsumer;

/** Each promise of the document by hand: ordinary inputs, the edges that it names, and wrong inputs. */
public final class PromisesTest {
    private static final int STEP = 0;
    private static final int KNOCK = 1;
    private static final int SET_UP = 2;
    private static final int PUSH = 3;
    private static final int LOW = Integer.MIN_VALUE;
    private static final int HIGH = Integer.MAX_VALUE;

    private static final Check CHECK = new Check();

    public static void main(String[] args) {
        promise1NewObject();
        promise2SetPiece();
        promise2SetPieceRefused();
        promise3Steps();
        promise3StepsOffTheBoard();
        promise3Knock();
        promise3SetUp();
        promise3Push();
        promise3PushRefused();
        promise3WrongNumbers();
        promise3SixtyEvenings();
        promise4Undo();
        promise5Redo();
        promise6GoTo();
        promises7To12Now();
        promise13PlaceOf();
        promise14Lies();
        promise15PieceAt();
        promise16CanDo();
        promises17To20Making();
        promises21And22Counts();
        promise23Again();
        promise24Meet();
        promise25Apart();
        promise26Ends();
        promise27PlaceIn();
        promise28LyingIn();
        promise29AreAlike();
        promise30MostKnocked();
        promise31MeanDepth();
        promise32Digest();
        CHECK.end();
    }

    private static void due(String call, Object got, Object want) {
        CHECK.due(call, got, want);
    }

    private static void missingEvenings(CatEvenings cat, String call, IntConsumer run) {
        for (int evening : new int[] {LOW, -1, cat.evenings(), 60, HIGH}) {
            CHECK.missing(cat, call + "(" + evening + ")", () -> run.accept(evening));
        }
    }

    private static void missingPieces(CatEvenings cat, String call, IntConsumer run) {
        for (int piece : new int[] {LOW, -1, cat.pieces(), 16, HIGH}) {
            CHECK.missing(cat, call + "(" + piece + ")", () -> run.accept(piece));
        }
    }

    private static void walk(CatEvenings cat, int... headings) {
        for (int heading : headings) {
            cat.paw(STEP, heading);
        }
    }

    private static void catIsAt(CatEvenings cat, int column, int row) {
        due("catColumn()", cat.catColumn(), column);
        due("catRow()", cat.catRow(), row);
    }

    /** 0 - 1 - 2 - 3, 2 - 4 - 5, 0 - 6; now is 6. */
    private static CatEvenings branched() {
        CatEvenings cat = new CatEvenings();
        walk(cat, 0, 2, 4);
        cat.undo(1);
        walk(cat, 2, 0);
        cat.goTo(0);
        walk(cat, 1);
        return cat;
    }

    private static void promise1NewObject() {
        CatEvenings cat = new CatEvenings();
        catIsAt(cat, 0, 0);
        due("evening()", cat.evening(), 0);
        due("evenings()", cat.evenings(), 1);
        due("pieces()", cat.pieces(), 0);
        due("lying()", cat.lying(), 0);
        due("pieceAt(0, 0)", cat.pieceAt(0, 0), -1);
    }

    private static void promise2SetPiece() {
        CatEvenings cat = new CatEvenings();
        due("setPiece(0, 0), the cat's place", cat.setPiece(0, 0), 0);
        due("setPiece(7, 7)", cat.setPiece(7, 7), 1);
        due("setPiece(2, 5)", cat.setPiece(2, 5), 2);
        due("placeOf(2)", cat.placeOf(2), 21);
        due("lies(2)", cat.lies(2), false);
        for (int piece = 3; piece < 16; piece++) {
            due("setPiece", cat.setPiece(4 + piece / 8, piece % 8), piece);
        }
        CHECK.state(cat, "setPiece, the 17th", () -> cat.setPiece(1, 1));
        CHECK.illegal(cat, "setPiece, the 17th, beyond the board", () -> cat.setPiece(8, 1));
    }

    private static void promise2SetPieceRefused() {
        CatEvenings cat = new CatEvenings();
        cat.setPiece(3, 4);
        for (int wrong : new int[] {LOW, -1, 8, HIGH}) {
            CHECK.illegal(cat, "setPiece(" + wrong + ", 0)", () -> cat.setPiece(wrong, 0));
            CHECK.illegal(cat, "setPiece(0, " + wrong + ")", () -> cat.setPiece(0, wrong));
        }
        CHECK.state(cat, "setPiece(3, 4) again", () -> cat.setPiece(3, 4));
        due("setPiece(4, 3)", cat.setPiece(4, 3), 1);
        walk(cat, 0);
        CHECK.state(cat, "setPiece behind a paw", () -> cat.setPiece(5, 5));
        cat.undo(1);
        CHECK.state(cat, "setPiece behind an undone paw", () -> cat.setPiece(5, 5));
        CHECK.illegal(cat, "setPiece(5, 8) behind a paw", () -> cat.setPiece(5, 8));
    }

    private static void promise3Steps() {
        int[] columns = {0, 1, 1, 1, 0, -1, -1, -1};
        int[] rows = {1, 1, 0, -1, -1, -1, 0, 1};
        for (int heading = 0; heading < 8; heading++) {
            CatEvenings cat = new CatEvenings();
            walk(cat, 1, 1, 1);
            due("paw(0, " + heading + ")", cat.paw(STEP, heading), 4);
            catIsAt(cat, 3 + columns[heading], 3 + rows[heading]);
        }
        CatEvenings cat = new CatEvenings();
        cat.setPiece(0, 1);
        due("paw(0, 0) onto a piece", cat.paw(STEP, 0), 1);
        catIsAt(cat, 0, 1);
        due("placeOf(0)", cat.placeOf(0), 1);
    }

    private static void promise3StepsOffTheBoard() {
        CatEvenings low = new CatEvenings();
        for (int heading = 3; heading < 8; heading++) {
            int refused = heading;
            CHECK.state(low, "paw(0, " + heading + ") at 0, 0", () -> low.paw(STEP, refused));
        }
        CatEvenings high = new CatEvenings();
        walk(high, 1, 1, 1, 1, 1, 1, 1);
        catIsAt(high, 7, 7);
        for (int heading : new int[] {7, 0, 1, 2, 3}) {
            CHECK.state(high, "paw(0, " + heading + ") at 7, 7", () -> high.paw(STEP, heading));
        }
    }

    private static CatEvenings withPiecesRound() {
        CatEvenings cat = new CatEvenings();
        for (int column = 1; column <= 3; column++) {
            for (int row = 1; row <= 3; row++) {
                cat.setPiece(column, row);
            }
        }
        cat.setPiece(4, 2);
        cat.setPiece(2, 4);
        cat.setPiece(0, 2);
        cat.setPiece(2, 0);
        walk(cat, 1, 1);
        return cat;
    }

    private static void promise3Knock() {
        CatEvenings cat = withPiecesRound();
        for (int far = 9; far <= 12; far++) {
            int piece = far;
            CHECK.state(cat, "knock of the far piece " + far, () -> cat.paw(KNOCK, piece));
        }
        for (int near = 0; near < 9; near++) {
            due("knock of the near piece " + near, cat.paw(KNOCK, near), 3 + near);
            due("lies(" + near + ")", cat.lies(near), true);
            due("lying()", cat.lying(), near + 1);
        }
        CHECK.state(cat, "knock of a piece that lies", () -> cat.paw(KNOCK, 4));
        CHECK.state(cat, "knock of no piece", () -> cat.paw(KNOCK, 13));
        CHECK.state(cat, "knock of no piece", () -> cat.paw(KNOCK, 15));
        catIsAt(cat, 2, 2);
    }

    private static void promise3SetUp() {
        CatEvenings cat = withPiecesRound();
        CHECK.state(cat, "set up of a piece that stands", () -> cat.paw(SET_UP, 4));
        CHECK.state(cat, "set up of no piece", () -> cat.paw(SET_UP, 13));
        cat.paw(KNOCK, 0);
        cat.paw(KNOCK, 4);
        cat.paw(KNOCK, 8);
        due("set up of the piece at the cat's place", cat.paw(SET_UP, 4), 6);
        due("lies(4)", cat.lies(4), false);
        walk(cat, 1);
        CHECK.state(cat, "set up of a far piece", () -> cat.paw(SET_UP, 0));
        due("set up of the piece at the cat's place", cat.paw(SET_UP, 8), 8);
        walk(cat, 5);
        due("set up of a near piece", cat.paw(SET_UP, 0), 10);
        due("lying()", cat.lying(), 0);
    }

    private static void promise3Push() {
        int[] columns = {0, 1, 1, 1, 0, -1, -1, -1};
        int[] rows = {1, 1, 0, -1, -1, -1, 0, 1};
        for (int heading = 0; heading < 8; heading++) {
            CatEvenings cat = new CatEvenings();
            cat.setPiece(3 + columns[heading], 3 + rows[heading]);
            walk(cat, 1, 1, 1);
            due("paw(3, " + heading + ")", cat.paw(PUSH, heading), 4);
            catIsAt(cat, 3 + columns[heading], 3 + rows[heading]);
            due("placeOf(0)", cat.placeOf(0), 8 * (3 + 2 * columns[heading]) + 3 + 2 * rows[heading]);
        }
    }

    private static void promise3PushRefused() {
        CatEvenings cat = new CatEvenings();
        cat.setPiece(0, 1);
        cat.setPiece(0, 3);
        cat.setPiece(0, 0);
        CHECK.state(cat, "push of no piece", () -> cat.paw(PUSH, 2));
        CHECK.state(cat, "push from beyond the board", () -> cat.paw(PUSH, 6));
        cat.paw(KNOCK, 0);
        CHECK.state(cat, "push of a piece that lies", () -> cat.paw(PUSH, 0));
        cat.paw(SET_UP, 0);
        due("paw(3, 0)", cat.paw(PUSH, 0), 3);
        CHECK.state(cat, "push onto a piece", () -> cat.paw(PUSH, 0));
        walk(cat, 0);
        cat.paw(KNOCK, 1);
        walk(cat, 4);
        CHECK.state(cat, "push onto a piece that lies", () -> cat.paw(PUSH, 0));

        CatEvenings edge = new CatEvenings();
        edge.setPiece(7, 0);
        walk(edge, 2, 2, 2, 2, 2, 2);
        CHECK.state(edge, "push beyond the board", () -> edge.paw(PUSH, 2));
        catIsAt(edge, 6, 0);
    }

    private static void promise3WrongNumbers() {
        CatEvenings cat = new CatEvenings();
        cat.setPiece(0, 1);
        for (int kind : new int[] {LOW, -1, 4, HIGH}) {
            CHECK.illegal(cat, "paw(" + kind + ", 0)", () -> cat.paw(kind, 0));
        }
        for (int kind = 0; kind < 4; kind++) {
            int of = kind;
            for (int number : new int[] {LOW, -1, kind == STEP || kind == PUSH ? 8 : 16, HIGH}) {
                CHECK.illegal(cat, "paw(" + kind + ", " + number + ")", () -> cat.paw(of, number));
            }
        }
        CHECK.state(cat, "paw(1, 8), no such piece", () -> cat.paw(KNOCK, 8));
        CHECK.state(cat, "paw(2, 15), no such piece", () -> cat.paw(SET_UP, 15));
    }

    private static CatEvenings withSixtyEvenings() {
        CatEvenings cat = new CatEvenings();
        for (int paw = 1; paw < 60; paw++) {
            due("paw " + paw, cat.paw(STEP, paw % 2 == 1 ? 0 : 4), paw);
        }
        return cat;
    }

    private static void promise3SixtyEvenings() {
        CatEvenings cat = withSixtyEvenings();
        due("evenings()", cat.evenings(), 60);
        CHECK.state(cat, "paw with 60 evenings", () -> cat.paw(STEP, 4));
        CHECK.illegal(cat, "paw(0, 8) with 60 evenings", () -> cat.paw(STEP, 8));
        due("canDo(0, 4) with 60 evenings", cat.canDo(STEP, 4), true);
        cat.undo(59);
        CHECK.state(cat, "paw with 60 evenings, all undone", () -> cat.paw(STEP, 0));
    }

    private static void promise4Undo() {
        CatEvenings cat = new CatEvenings();
        cat.setPiece(1, 0);
        cat.paw(PUSH, 2);
        cat.paw(KNOCK, 0);
        walk(cat, 1);
        due("undo(1)", cat.undo(1), 2);
        catIsAt(cat, 1, 0);
        due("lies(0)", cat.lies(0), true);
        due("undo(2)", cat.undo(2), 0);
        catIsAt(cat, 0, 0);
        due("lies(0)", cat.lies(0), false);
        due("placeOf(0)", cat.placeOf(0), 8);
        due("evenings()", cat.evenings(), 4);
        CHECK.state(cat, "undo(1) in the evening 0", () -> cat.undo(1));
        cat.goTo(3);
        CHECK.state(cat, "undo(4) behind three", () -> cat.undo(4));
        CHECK.state(cat, "undo(60) behind three", () -> cat.undo(60));
        for (int many : new int[] {LOW, -1, 0, 61, HIGH}) {
            CHECK.illegal(cat, "undo(" + many + ")", () -> cat.undo(many));
        }
        CatEvenings long60 = withSixtyEvenings();
        due("undo(59)", long60.undo(59), 0);
    }

    private static void promise5Redo() {
        CatEvenings cat = branched();
        CHECK.state(cat, "redo(1) at an end", () -> cat.redo(1));
        cat.goTo(0);
        CHECK.state(cat, "redo(2), one too many", () -> cat.redo(2));
        due("redo(1)", cat.redo(1), 6);
        cat.goTo(3);
        cat.undo(3);
        due("redo(3)", cat.redo(3), 3);
        catIsAt(cat, 1, 0);
        cat.undo(2);
        due("redo(1)", cat.redo(1), 2);
        CHECK.state(cat, "redo(60), far too many", () -> cat.redo(60));
        for (int many : new int[] {LOW, -1, 0, 61, HIGH}) {
            CHECK.illegal(cat, "redo(" + many + ")", () -> cat.redo(many));
        }
        CatEvenings long60 = withSixtyEvenings();
        long60.goTo(0);
        due("redo(59)", long60.redo(59), 59);
    }

    private static void promise6GoTo() {
        CatEvenings cat = branched();
        due("goTo(5)", cat.goTo(5), 5);
        due("evening()", cat.evening(), 5);
        catIsAt(cat, 2, 2);
        due("goTo(5) from there", cat.goTo(5), 0);
        due("goTo(3)", cat.goTo(3), 3);
        catIsAt(cat, 1, 0);
        due("again(2) over goTo's way", cat.again(2), 3);
        due("again(0) over goTo's way", cat.again(0), 1);
        due("goTo(1)", cat.goTo(1), 2);
        due("goTo(4)", cat.goTo(4), 2);
        missingEvenings(cat, "goTo", cat::goTo);
    }

    private static void promises7To12Now() {
        CatEvenings cat = new CatEvenings();
        cat.setPiece(1, 0);
        cat.setPiece(1, 1);
        cat.paw(KNOCK, 0);
        cat.paw(KNOCK, 1);
        walk(cat, 2, 2, 0);
        due("evening()", cat.evening(), 5);
        due("evenings()", cat.evenings(), 6);
        due("pieces()", cat.pieces(), 2);
        due("catColumn()", cat.catColumn(), 2);
        due("catRow()", cat.catRow(), 1);
        due("lying()", cat.lying(), 2);
        cat.undo(4);
        due("evening()", cat.evening(), 1);
        due("evenings()", cat.evenings(), 6);
        due("pieces()", cat.pieces(), 2);
        due("catColumn()", cat.catColumn(), 0);
        due("catRow()", cat.catRow(), 0);
        due("lying()", cat.lying(), 1);
    }

    private static void promise13PlaceOf() {
        CatEvenings cat = new CatEvenings();
        cat.setPiece(7, 7);
        cat.setPiece(0, 7);
        cat.setPiece(1, 0);
        due("placeOf(0)", cat.placeOf(0), 63);
        due("placeOf(1)", cat.placeOf(1), 7);
        due("placeOf(2)", cat.placeOf(2), 8);
        cat.paw(KNOCK, 2);
        due("placeOf(2), it lies", cat.placeOf(2), 8);
        cat.paw(SET_UP, 2);
        cat.paw(PUSH, 2);
        due("placeOf(2), pushed", cat.placeOf(2), 16);
        missingPieces(cat, "placeOf", cat::placeOf);
    }

    private static void promise14Lies() {
        CatEvenings cat = new CatEvenings();
        cat.setPiece(0, 0);
        cat.setPiece(0, 1);
        cat.paw(KNOCK, 1);
        due("lies(0)", cat.lies(0), false);
        due("lies(1)", cat.lies(1), true);
        cat.paw(SET_UP, 1);
        due("lies(1), set up", cat.lies(1), false);
        missingPieces(cat, "lies", cat::lies);
    }

    private static void promise15PieceAt() {
        CatEvenings cat = new CatEvenings();
        cat.setPiece(7, 7);
        cat.setPiece(1, 0);
        due("pieceAt(7, 7)", cat.pieceAt(7, 7), 0);
        due("pieceAt(1, 0)", cat.pieceAt(1, 0), 1);
        due("pieceAt(0, 1)", cat.pieceAt(0, 1), -1);
        cat.paw(PUSH, 2);
        due("pieceAt(1, 0), pushed away", cat.pieceAt(1, 0), -1);
        due("pieceAt(2, 0), pushed there", cat.pieceAt(2, 0), 1);
        cat.paw(KNOCK, 1);
        due("pieceAt(2, 0), it lies", cat.pieceAt(2, 0), 1);
        for (int wrong : new int[] {LOW, -1, 8, HIGH}) {
            CHECK.illegal(cat, "pieceAt(" + wrong + ", 0)", () -> cat.pieceAt(wrong, 0));
            CHECK.illegal(cat, "pieceAt(0, " + wrong + ")", () -> cat.pieceAt(0, wrong));
        }
    }

    private static void canDo(CatEvenings cat, int kind, int number, boolean want) {
        long before = cat.digest();
        due("canDo(" + kind + ", " + number + ")", cat.canDo(kind, number), want);
        due("digest() after canDo", cat.digest(), before);
    }

    private static void promise16CanDo() {
        CatEvenings cat = new CatEvenings();
        cat.setPiece(0, 1);
        cat.setPiece(5, 5);
        canDo(cat, STEP, 0, true);
        canDo(cat, STEP, 7, false);
        canDo(cat, KNOCK, 0, true);
        canDo(cat, KNOCK, 1, false);
        canDo(cat, KNOCK, 15, false);
        canDo(cat, SET_UP, 0, false);
        canDo(cat, PUSH, 0, true);
        canDo(cat, PUSH, 2, false);
        cat.paw(KNOCK, 0);
        canDo(cat, KNOCK, 0, false);
        canDo(cat, SET_UP, 0, true);
        canDo(cat, PUSH, 0, false);
        for (int kind : new int[] {LOW, -1, 4, HIGH}) {
            CHECK.illegal(cat, "canDo(" + kind + ", 0)", () -> cat.canDo(kind, 0));
        }
        for (int kind = 0; kind < 4; kind++) {
            int of = kind;
            for (int number : new int[] {LOW, -1, kind == STEP || kind == PUSH ? 8 : 16, HIGH}) {
                CHECK.illegal(cat, "canDo(" + kind + ", " + number + ")", () -> cat.canDo(of, number));
            }
        }
    }

    private static void promises17To20Making() {
        CatEvenings cat = new CatEvenings();
        cat.setPiece(0, 2);
        walk(cat, 0);
        cat.paw(PUSH, 0);
        cat.undo(1);
        cat.paw(KNOCK, 0);
        cat.paw(SET_UP, 0);
        int[] above = {-1, 0, 1, 1, 3};
        int[] kinds = {-1, STEP, PUSH, KNOCK, SET_UP};
        int[] numbers = {-1, 0, 0, 0, 0};
        int[] depths = {0, 1, 2, 2, 3};
        for (int evening = 0; evening < 5; evening++) {
            due("hangsOn(" + evening + ")", cat.hangsOn(evening), above[evening]);
            due("kindOf(" + evening + ")", cat.kindOf(evening), kinds[evening]);
            due("numberOf(" + evening + ")", cat.numberOf(evening), numbers[evening]);
            due("depthOf(" + evening + ")", cat.depthOf(evening), depths[evening]);
        }
        CatEvenings other = branched();
        due("numberOf(2)", other.numberOf(2), 2);
        due("numberOf(3)", other.numberOf(3), 4);
        missingEvenings(cat, "hangsOn", cat::hangsOn);
        missingEvenings(cat, "kindOf", cat::kindOf);
        missingEvenings(cat, "numberOf", cat::numberOf);
        missingEvenings(cat, "depthOf", cat::depthOf);
    }

    private static void promises21And22Counts() {
        CatEvenings cat = branched();
        int[] branches = {2, 1, 2, 0, 1, 0, 0};
        int[] behind = {6, 4, 3, 0, 1, 0, 0};
        for (int evening = 0; evening < 7; evening++) {
            due("branches(" + evening + ")", cat.branches(evening), branches[evening]);
            due("behind(" + evening + ")", cat.behind(evening), behind[evening]);
        }
        missingEvenings(cat, "branches", cat::branches);
        missingEvenings(cat, "behind", cat::behind);
    }

    private static void promise23Again() {
        CatEvenings cat = branched();
        int[] again = {6, 2, 4, -1, 5, -1, -1};
        for (int evening = 0; evening < 7; evening++) {
            due("again(" + evening + ")", cat.again(evening), again[evening]);
        }
        cat.goTo(3);
        due("again(0), came back over 1", cat.again(0), 1);
        due("again(2), came to 3", cat.again(2), 3);
        due("again(4), one was in 5 before", cat.again(4), 5);
        cat.undo(3);
        due("again(2), undone", cat.again(2), 3);
        missingEvenings(cat, "again", cat::again);
    }

    private static void promise24Meet() {
        CatEvenings cat = branched();
        due("meet(3, 5)", cat.meet(3, 5), 2);
        due("meet(5, 3)", cat.meet(5, 3), 2);
        due("meet(5, 6)", cat.meet(5, 6), 0);
        due("meet(1, 5), one of them", cat.meet(1, 5), 1);
        due("meet(5, 1), one of them", cat.meet(5, 1), 1);
        due("meet(4, 4)", cat.meet(4, 4), 4);
        due("meet(0, 6)", cat.meet(0, 6), 0);
        missingEvenings(cat, "meet with one", wrong -> cat.meet(wrong, 0));
        missingEvenings(cat, "meet with other", wrong -> cat.meet(0, wrong));
    }

    private static void promise25Apart() {
        CatEvenings cat = branched();
        due("apart(3, 5)", cat.apart(3, 5), 3);
        due("apart(5, 3)", cat.apart(5, 3), 3);
        due("apart(5, 6)", cat.apart(5, 6), 5);
        due("apart(0, 5)", cat.apart(0, 5), 4);
        due("apart(4, 4)", cat.apart(4, 4), 0);
        missingEvenings(cat, "apart with one", wrong -> cat.apart(wrong, 0));
        missingEvenings(cat, "apart with other", wrong -> cat.apart(0, wrong));
        CatEvenings long60 = withSixtyEvenings();
        due("apart(0, 59)", long60.apart(0, 59), 59);
    }

    private static void promise26Ends() {
        CatEvenings cat = new CatEvenings();
        due("ends()", cat.ends(), 1);
        walk(cat, 0, 0);
        due("ends()", cat.ends(), 1);
        cat.undo(1);
        walk(cat, 2);
        due("ends()", cat.ends(), 2);
        due("ends() of three", branched().ends(), 3);
    }

    /** 1: piece 0 is pushed to 2, 0; 2: it lies; 3: and piece 1 too; 4, on 1: a step. */
    private static CatEvenings played() {
        CatEvenings cat = new CatEvenings();
        cat.setPiece(1, 0);
        cat.setPiece(1, 1);
        cat.paw(PUSH, 2);
        cat.paw(KNOCK, 0);
        cat.paw(KNOCK, 1);
        cat.goTo(1);
        walk(cat, 0);
        return cat;
    }

    private static void promise27PlaceIn() {
        CatEvenings cat = played();
        due("placeIn(0, 0)", cat.placeIn(0, 0), 8);
        due("placeIn(1, 0)", cat.placeIn(1, 0), 16);
        due("placeIn(2, 0)", cat.placeIn(2, 0), 116);
        due("placeIn(2, 1)", cat.placeIn(2, 1), 9);
        due("placeIn(3, 1)", cat.placeIn(3, 1), 109);
        due("placeIn(4, 0)", cat.placeIn(4, 0), 16);
        due("evening(), nothing changed", cat.evening(), 4);
        missingEvenings(cat, "placeIn, evening", evening -> cat.placeIn(evening, 0));
        missingPieces(cat, "placeIn, piece", piece -> cat.placeIn(2, piece));
    }

    private static void promise28LyingIn() {
        CatEvenings cat = played();
        int[] lying = {0, 0, 1, 2, 0};
        for (int evening = 0; evening < 5; evening++) {
            due("lyingIn(" + evening + ")", cat.lyingIn(evening), lying[evening]);
        }
        due("evening(), nothing changed", cat.evening(), 4);
        missingEvenings(cat, "lyingIn", cat::lyingIn);
    }

    private static void promise29AreAlike() {
        CatEvenings cat = played();
        due("areAlike(2, 2)", cat.areAlike(2, 2), true);
        due("areAlike(2, 3), another one lies", cat.areAlike(2, 3), false);
        due("areAlike(1, 4), the cat is elsewhere", cat.areAlike(1, 4), false);
        walk(cat, 4);
        due("areAlike(1, 5)", cat.areAlike(1, 5), true);
        due("areAlike(5, 1)", cat.areAlike(5, 1), true);
        missingEvenings(cat, "areAlike with one", wrong -> cat.areAlike(wrong, 0));
        missingEvenings(cat, "areAlike with other", wrong -> cat.areAlike(0, wrong));

        CatEvenings pushed = new CatEvenings();
        pushed.setPiece(1, 0);
        walk(pushed, 2);
        pushed.undo(1);
        pushed.paw(PUSH, 2);
        due("areAlike(1, 2), the piece is elsewhere", pushed.areAlike(1, 2), false);
    }

    private static void promise30MostKnocked() {
        CatEvenings cat = new CatEvenings();
        due("mostKnocked() without pieces", cat.mostKnocked(), -1);
        cat.setPiece(0, 1);
        cat.setPiece(1, 1);
        cat.setPiece(1, 0);
        due("mostKnocked() without knocks", cat.mostKnocked(), 0);
        cat.paw(KNOCK, 2);
        due("mostKnocked()", cat.mostKnocked(), 2);
        walk(cat, 0, 4, 0, 4);
        due("mostKnocked(), steps count nothing", cat.mostKnocked(), 2);
        cat.paw(KNOCK, 1);
        due("mostKnocked(), the smaller of two", cat.mostKnocked(), 1);
        cat.paw(SET_UP, 2);
        cat.paw(SET_UP, 1);
        due("mostKnocked(), both were set up once", cat.mostKnocked(), 1);
        cat.undo(8);
        due("mostKnocked(), undone ones count", cat.mostKnocked(), 1);
        cat.paw(KNOCK, 2);
        due("mostKnocked(), over all branches", cat.mostKnocked(), 2);
    }

    private static void promise31MeanDepth() {
        CatEvenings cat = new CatEvenings();
        due("meanDepth()", cat.meanDepth(), 0.0);
        walk(cat, 0, 0, 0);
        due("meanDepth()", cat.meanDepth(), 3.0);
        cat.undo(3);
        walk(cat, 2, 2);
        due("meanDepth()", cat.meanDepth(), 2.5);
        due("meanDepth() of 3, 4 and 1", branched().meanDepth(), 8.0 / 3.0);
    }

    private static void promise32Digest() {
        due("digest() of a new object", new CatEvenings().digest(), digestOf(new CatEvenings()));
        CatEvenings cat = played();
        cat.undo(1);
        due("digest()", cat.digest(), digestOf(cat));
    }

    private static long digestOf(CatEvenings cat) {
        long d = 2251;
        int[] first = {cat.evening(), cat.evenings(), cat.pieces(), cat.catColumn(), cat.catRow(), cat.lying(),
            cat.ends(), cat.mostKnocked()};
        for (int x : first) {
            d = d * 31 + x;
        }
        for (int piece = 0; piece < cat.pieces(); piece++) {
            d = d * 31 + cat.placeOf(piece);
            d = d * 31 + (cat.lies(piece) ? 1 : 0);
        }
        int now = cat.evening();
        for (int e = 0; e < cat.evenings(); e++) {
            int[] each = {cat.hangsOn(e), cat.kindOf(e), cat.numberOf(e), cat.depthOf(e), cat.branches(e),
                cat.behind(e), cat.again(e), cat.lyingIn(e), cat.apart(e, now), cat.areAlike(e, now) ? 1 : 0};
            for (int x : each) {
                d = d * 31 + x;
            }
        }
        return d;
    }
}

/**
 * The edges of the board and of the four kinds of paws, sentence by sentence: "Terms" and the promises 2, 3, 15 and 16.
 * What is quoted ahead of a test is the sentence that it holds.
 */
public final class PawEdgesTest {
    private static final int STEP = Situation.STEP;
    private static final int KNOCK = Situation.KNOCK;
    private static final int SET_UP = Situation.SET_UP;
    private static final int PUSH = Situation.PUSH;
    private static final int LOW = Integer.MIN_VALUE;
    private static final int HIGH = Integer.MAX_VALUE;
    private static final int[] OFF_BOARD = {LOW, -1, 8, HIGH};

    private static final Class<IllegalArgumentException> ILLEGAL = IllegalArgumentException.class;
    private static final Class<IllegalStateException> STATE = IllegalStateException.class;

    private static final Check CHECK = new Check();

    public static void main(String[] args) {
        termsBoardHasEightColumnsAndRows();
        termsPiecesAreNumberedFromZero();
        termsPieceStandsAsItIsSet();
        promise2ColumnOrRowIsNotZeroToSeven();
        promise2ThereAreSixteen();
        promise2SomePawWasDone();
        promise2RefusedPawIsNotDone();
        promise2AnotherPieceIsThere();
        promise2IllegalArgumentIsNamedFirst();
        termsStepOfEachHeadingFromEachPlace();
        termsStepOntoPieces();
        termsKnockFromEachPlaceAtEachPlace();
        termsKnockRefused();
        termsSetUpFromEachPlaceAtEachPlace();
        termsSetUpRefused();
        termsPushOfEachHeadingFromEachPlace();
        termsPushRefusedNoSuchPiece();
        termsPushRefusedItLies();
        termsPushRefusedAnotherPieceIsThere();
        termsPushLeavesOtherPieces();
        promise3KindIsNotZeroToThree();
        promise3NumberOfStepAndPush();
        promise3NumberOfKnockAndSetUp();
        promise3ThereAreSixtyEvenings();
        promise3IllegalArgumentIsNamedFirst();
        promise15ColumnOrRowIsNotZeroToSeven();
        promise15NoPiece();
        promise16KindIsNotZeroToThree();
        promise16NumberIsNotOfTheKind();
        promise16AgreesWithPaw();
        promise16ButForHowManyEvenings();
        CHECK.end();
    }

    private static void due(String call, Object got, Object want) {
        CHECK.due(call, got, want);
    }

    private static String called(String call, int one, int other) {
        return call + "(" + one + ", " + other + ")";
    }

    private static void pawRefused(Situation situation, Class<? extends RuntimeException> want, int kind, int number) {
        CHECK.refusedIn(situation, want, called("paw", kind, number), cat -> cat.paw(kind, number));
    }

    private static void setRefused(Situation situation, Class<? extends RuntimeException> want, int column, int row) {
        CHECK.refusedIn(situation, want, called("setPiece", column, row), cat -> cat.setPiece(column, row));
    }

    /** Both as a paw and as canDo(). */
    private static void cannot(Situation situation, int kind, int number) {
        due(situation.name() + ": " + called("canDo", kind, number), situation.make().canDo(kind, number), false);
        pawRefused(situation, STATE, kind, number);
    }

    private static Situation at(Situation situation, int column, int row) {
        return situation.then("at " + column + ", " + row, cat -> Situation.walkTo(cat, column, row));
    }

    private static Situation withPiece(Situation situation, int column, int row) {
        return situation.then("a piece at " + column + ", " + row, cat -> cat.setPiece(column, row));
    }

    private static Situation knocked(Situation situation, int piece) {
        return situation.then("knock of " + piece, cat -> cat.paw(KNOCK, piece));
    }

    private static boolean isCorner(int column, int row) {
        return column % 7 == 0 && row % 7 == 0;
    }

    private static boolean areNear(int column, int row, int otherColumn, int otherRow) {
        return Math.abs(column - otherColumn) <= 1 && Math.abs(row - otherRow) <= 1;
    }

    private static void catIsAt(CatEvenings cat, String behind, int column, int row) {
        due(behind + ": catColumn()", cat.catColumn(), column);
        due(behind + ": catRow()", cat.catRow(), row);
    }

    // ---- the board and the pieces

    /** Terms: "The board has 8 columns and 8 rows, both numbered from 0." */
    private static void termsBoardHasEightColumnsAndRows() {
        for (int column = 0; column <= 7; column++) {
            for (int row = 0; row <= 7; row++) {
                CatEvenings cat = new CatEvenings();
                due(called("setPiece", column, row), cat.setPiece(column, row), 0);
                due("placeOf(0)", cat.placeOf(0), 8 * column + row);
                for (int place = 0; place < 64; place++) {
                    due(called("pieceAt", place / 8, place % 8), cat.pieceAt(place / 8, place % 8),
                        place == 8 * column + row ? 0 : -1);
                }
            }
        }
    }

    /** Terms: "Pieces: at most 16, numbered from 0"; promise 2: "Returns its number." */
    private static void termsPiecesAreNumberedFromZero() {
        CatEvenings cat = new CatEvenings();
        for (int piece = 0; piece < 16; piece++) {
            due("pieces()", cat.pieces(), piece);
            due("setPiece of piece " + piece, cat.setPiece(7 - piece / 8, piece % 8), piece);
            due("placeOf(" + piece + ")", cat.placeOf(piece), 8 * (7 - piece / 8) + piece % 8);
        }
        due("pieces()", cat.pieces(), 16);
    }

    /** Terms: "stands or lies (stands, as it is set)". */
    private static void termsPieceStandsAsItIsSet() {
        CatEvenings cat = Situation.SIXTEEN_PIECES.make();
        for (int piece = 0; piece < 16; piece++) {
            due("lies(" + piece + ")", cat.lies(piece), false);
        }
        due("lying()", cat.lying(), 0);
    }

    /** Promise 2: "Throws IllegalArgumentException if column or row is not 0 to 7". */
    private static void promise2ColumnOrRowIsNotZeroToSeven() {
        for (int off : OFF_BOARD) {
            for (int on = 0; on <= 7; on += 7) {
                setRefused(Situation.NEW, ILLEGAL, off, on);
                setRefused(Situation.NEW, ILLEGAL, on, off);
                setRefused(Situation.ONE_PIECE, ILLEGAL, off, on);
                setRefused(Situation.ONE_PIECE, ILLEGAL, on, off);
            }
            for (int other : OFF_BOARD) {
                setRefused(Situation.NEW, ILLEGAL, off, other);
            }
        }
    }

    /** Promise 2: "Throws IllegalStateException if there are 16". */
    private static void promise2ThereAreSixteen() {
        Situation fifteen = Situation.NEW.then("15 pieces", cat -> {
            for (int piece = 0; piece < 15; piece++) {
                cat.setPiece(piece % 8, piece / 8);
            }
        });
        CatEvenings cat = fifteen.make();
        due("setPiece(7, 1), the 16th", cat.setPiece(7, 1), 15);
        setRefused(fifteen.then("the 16th", full -> full.setPiece(7, 1)), STATE, 7, 7);
        setRefused(Situation.SIXTEEN_PIECES, STATE, 7, 7);
        setRefused(Situation.SIXTEEN_PIECES, STATE, 4, 0);
        setRefused(Situation.SIXTEEN_PIECES, STATE, 3, 3);
    }

    /** Promise 2: "Throws IllegalStateException if .. some paw was done already". */
    private static void promise2SomePawWasDone() {
        Situation stepped = Situation.NEW.then("a step", cat -> cat.paw(STEP, 1));
        Situation knocked = knocked(Situation.ONE_PIECE, 0);
        Situation pushed = Situation.ONE_PIECE.then("a push", cat -> cat.paw(PUSH, 0));
        for (Situation done : new Situation[] {stepped, knocked, pushed}) {
            setRefused(done, STATE, 5, 5);
            setRefused(done.then("undone", cat -> cat.undo(1)), STATE, 5, 5);
            setRefused(done.then("goTo(0)", cat -> cat.goTo(0)), STATE, 5, 5);
        }
        setRefused(knocked.then("set up", cat -> cat.paw(SET_UP, 0)), STATE, 5, 5);
        setRefused(Situation.INNER, STATE, 5, 5);
        setRefused(Situation.STAR_OF_60, STATE, 5, 5);
    }

    /** Promise 2, "some paw was done already", and Terms, "A method that throws an exception changes nothing". */
    private static void promise2RefusedPawIsNotDone() {
        CatEvenings cat = new CatEvenings();
        CHECK.state(cat, "paw(0, 6)", () -> cat.paw(STEP, 6));
        CHECK.state(cat, "paw(1, 0)", () -> cat.paw(KNOCK, 0));
        CHECK.illegal(cat, "paw(4, 0)", () -> cat.paw(4, 0));
        CHECK.state(cat, "undo(1)", () -> cat.undo(1));
        CHECK.state(cat, "redo(1)", () -> cat.redo(1));
        due("canDo(0, 0)", cat.canDo(STEP, 0), true);
        due("goTo(0)", cat.goTo(0), 0);
        due("setPiece(5, 5)", cat.setPiece(5, 5), 0);
    }

    /** Promise 2: "if .. another piece is there"; Terms: "each has a place, at which no other one stands". */
    private static void promise2AnotherPieceIsThere() {
        Situation corners = withPiece(withPiece(withPiece(withPiece(Situation.NEW, 0, 0), 7, 7), 0, 7), 7, 0);
        for (int[] corner : new int[][] {{0, 0}, {7, 7}, {0, 7}, {7, 0}}) {
            setRefused(corners, STATE, corner[0], corner[1]);
        }
        CatEvenings cat = withPiece(Situation.NEW, 3, 4).make();
        int[][] free = {{4, 3}, {3, 3}, {3, 5}, {2, 4}, {4, 4}, {0, 0}};
        for (int i = 0; i < free.length; i++) {
            due(called("setPiece", free[i][0], free[i][1]), cat.setPiece(free[i][0], free[i][1]), i + 1);
        }
    }

    /** Terms: "If several exceptions apply, the one that is named first is thrown", for promise 2. */
    private static void promise2IllegalArgumentIsNamedFirst() {
        Situation fullAndDone = Situation.SIXTEEN_PIECES.then("a step", cat -> cat.paw(STEP, 0));
        for (Situation situation : new Situation[] {Situation.SIXTEEN_PIECES, Situation.INNER, fullAndDone}) {
            for (int off : OFF_BOARD) {
                setRefused(situation, ILLEGAL, off, 0);
                setRefused(situation, ILLEGAL, 0, off);
            }
        }
    }

    // ---- step

    /**
     * Terms: "0 is a row more, and each one more an eighth of a circle farther .. 7 a row more and a column less. The
     * cat is then a place farther in it. It is refused, if that would leave the board."
     */
    private static void termsStepOfEachHeadingFromEachPlace() {
        for (int place = 0; place < 64; place++) {
            for (int heading = 0; heading < 8; heading++) {
                stepOf(at(Situation.NEW, place / 8, place % 8), place / 8, place % 8, heading);
            }
        }
    }

    private static void stepOf(Situation situation, int column, int row, int heading) {
        int nextColumn = column + Situation.COLUMNS[heading];
        int nextRow = row + Situation.ROWS[heading];
        if (Situation.isOnBoard(nextColumn, nextRow)) {
            CatEvenings cat = situation.make();
            String call = situation.name() + ", " + called("paw", STEP, heading);
            due(situation.name() + ": " + called("canDo", STEP, heading), cat.canDo(STEP, heading), true);
            due(call, cat.paw(STEP, heading), Math.max(column, row) + 1);
            catIsAt(cat, call, nextColumn, nextRow);
        } else {
            cannot(situation, STEP, heading);
        }
    }

    /** Terms: "the cat can step onto places with pieces", with one that stands and with one that lies. */
    private static void termsStepOntoPieces() {
        CatEvenings cat = Situation.ONE_PIECE.make();
        due("paw(0, 0) onto a piece that stands", cat.paw(STEP, 0), 1);
        catIsAt(cat, "paw(0, 0)", 0, 1);
        cat.paw(KNOCK, 0);
        cat.paw(STEP, 4);
        due("paw(0, 0) onto a piece that lies", cat.paw(STEP, 0), 4);
        catIsAt(cat, "paw(0, 0)", 0, 1);
        due("placeOf(0)", cat.placeOf(0), 1);
        due("lies(0)", cat.lies(0), true);
    }

    // ---- knock and set up

    /**
     * Terms, knock: "the piece with the number lies then. It is refused, if .. its place is not beside the cat's, or
     * the same: beside means that columns and rows differ by 1 at the most."
     */
    private static void termsKnockFromEachPlaceAtEachPlace() {
        for (int place = 0; place < 64; place++) {
            for (int piece = 0; piece < 64; piece++) {
                CatEvenings cat = at(withPiece(Situation.NEW, piece / 8, piece % 8), place / 8, place % 8).make();
                String call = "knock of a piece at " + piece + " from " + place;
                boolean near = areNear(place / 8, place % 8, piece / 8, piece % 8);
                due("canDo, " + call, cat.canDo(KNOCK, 0), near);
                if (near) {
                    due(call, cat.paw(KNOCK, 0), cat.evenings() - 1);
                } else {
                    CHECK.state(cat, call, () -> cat.paw(KNOCK, 0));
                }
                due("lies(0), " + call, cat.lies(0), near);
                due("placeOf(0), " + call, cat.placeOf(0), piece);
                catIsAt(cat, call, place / 8, place % 8);
            }
        }
    }

    /** Terms, knock: "It is refused, if there is no such piece, it lies, or its place is not beside the cat's". */
    private static void termsKnockRefused() {
        cannot(Situation.NEW, KNOCK, 0);
        cannot(Situation.NEW, KNOCK, 15);
        cannot(Situation.ONE_PIECE, KNOCK, 1);
        cannot(Situation.ONE_PIECE, KNOCK, 15);
        cannot(knocked(Situation.ONE_PIECE, 0), KNOCK, 0);
        cannot(withPiece(Situation.NEW, 0, 2), KNOCK, 0);
        cannot(withPiece(Situation.NEW, 2, 0), KNOCK, 0);
        cannot(withPiece(Situation.NEW, 7, 7), KNOCK, 0);
        cannot(Situation.INNER, KNOCK, 0);
        cannot(at(withPiece(Situation.NEW, 1, 0), 0, 7), KNOCK, 0);
        Situation amidSixteen = at(Situation.SIXTEEN_PIECES, 4, 4);
        cannot(amidSixteen, KNOCK, 0);
        cannot(amidSixteen, KNOCK, 14);
        due("paw(1, 15), the last piece", amidSixteen.make().paw(KNOCK, 15), 5);
    }

    /** Terms, set up: "It is refused, if .. it is not beside the cat's place, or the same." */
    private static void termsSetUpFromEachPlaceAtEachPlace() {
        for (int place = 0; place < 64; place++) {
            for (int piece = 0; piece < 64; piece++) {
                Situation set = at(withPiece(Situation.NEW, piece / 8, piece % 8), piece / 8, piece % 8);
                CatEvenings cat = at(knocked(set, 0), place / 8, place % 8).make();
                String call = "set up of a piece at " + piece + " from " + place;
                boolean near = areNear(place / 8, place % 8, piece / 8, piece % 8);
                due("canDo, " + call, cat.canDo(SET_UP, 0), near);
                if (near) {
                    due(call, cat.paw(SET_UP, 0), cat.evenings() - 1);
                } else {
                    CHECK.state(cat, call, () -> cat.paw(SET_UP, 0));
                }
                due("lies(0), " + call, cat.lies(0), !near);
                due("placeOf(0), " + call, cat.placeOf(0), piece);
                catIsAt(cat, call, place / 8, place % 8);
            }
        }
    }

    /** Terms, set up: "It is refused, if there is no such piece, it stands, or it is not beside the cat's place". */
    private static void termsSetUpRefused() {
        cannot(Situation.NEW, SET_UP, 0);
        cannot(Situation.NEW, SET_UP, 15);
        cannot(Situation.ONE_PIECE, SET_UP, 1);
        cannot(Situation.ONE_PIECE, SET_UP, 15);
        cannot(Situation.ONE_PIECE, SET_UP, 0);
        cannot(knocked(Situation.ONE_PIECE, 0).then("set up", cat -> cat.paw(SET_UP, 0)), SET_UP, 0);
        cannot(at(knocked(Situation.ONE_PIECE, 0), 2, 0), SET_UP, 0);
        cannot(Situation.INNER, SET_UP, 1);
        cannot(at(knocked(Situation.ONE_PIECE, 0), 0, 3), SET_UP, 0);
        Situation knockedLast = knocked(at(Situation.SIXTEEN_PIECES, 4, 4), 15);
        cannot(knockedLast, SET_UP, 14);
        cannot(at(knockedLast, 5, 3), SET_UP, 15);
        due("paw(2, 15), the last piece", knockedLast.make().paw(SET_UP, 15), 6);
    }

    // ---- push

    /**
     * Terms, push: "The piece at the place one farther from the cat in it .. comes one farther in it again; the cat
     * comes to where it stood. It is refused, if .. its next place is beyond the board".
     */
    private static void termsPushOfEachHeadingFromEachPlace() {
        for (int place = 0; place < 64; place++) {
            for (int heading = 0; heading < 8; heading++) {
                int column = place / 8 + Situation.COLUMNS[heading];
                int row = place % 8 + Situation.ROWS[heading];
                if (Situation.isOnBoard(column, row)) {
                    pushOf(at(withPiece(Situation.NEW, column, row), place / 8, place % 8), column, row, heading);
                }
            }
        }
    }

    private static void pushOf(Situation situation, int column, int row, int heading) {
        int nextColumn = column + Situation.COLUMNS[heading];
        int nextRow = row + Situation.ROWS[heading];
        if (Situation.isOnBoard(nextColumn, nextRow)) {
            CatEvenings cat = situation.make();
            String call = situation.name() + ", " + called("paw", PUSH, heading);
            due(situation.name() + ": " + called("canDo", PUSH, heading), cat.canDo(PUSH, heading), true);
            due(call, cat.paw(PUSH, heading), cat.evenings() - 1);
            due(call + ": placeOf(0)", cat.placeOf(0), 8 * nextColumn + nextRow);
            due(call + ": pieceAt", cat.pieceAt(nextColumn, nextRow), 0);
            due(call + ": lies(0)", cat.lies(0), false);
            catIsAt(cat, call, column, row);
        } else {
            cannot(situation, PUSH, heading);
        }
    }

    /**
     * Terms, push: "It is refused, if there is no such piece": on an empty board, beyond the board, and where there
     * are pieces at places that could be taken for it (the cat's own, the one behind, those round the board's edge).
     */
    private static void termsPushRefusedNoSuchPiece() {
        for (int place = 0; place < 64; place++) {
            for (int heading = 0; heading < 8; heading++) {
                int column = place / 8;
                int row = place % 8;
                boolean shown = isCorner(column, row) || place == 27;
                Situation empty = at(Situation.NEW, column, row);
                Situation others = at(withPiecesButAt(column, row, heading), column, row);
                noPush(empty, heading, shown);
                noPush(others, heading, shown);
            }
        }
    }

    /** All of it is compared for some places alone, as that takes its time. */
    private static void noPush(Situation situation, int heading, boolean wholePicture) {
        if (wholePicture) {
            cannot(situation, PUSH, heading);
        } else {
            CatEvenings cat = situation.make();
            CHECK.state(cat, situation.name() + ": " + called("paw", PUSH, heading), () -> cat.paw(PUSH, heading));
        }
    }

    private static Situation withPiecesButAt(int column, int row, int heading) {
        int nextColumn = column + Situation.COLUMNS[heading];
        int nextRow = row + Situation.ROWS[heading];
        int nextNumber = 8 * nextColumn + nextRow;
        return Situation.NEW.then("pieces but where heading " + heading + " leads", cat -> {
            cat.setPiece(column, row);
            setIfFree(cat, 2 * nextColumn - column, 2 * nextRow - row);
            if (!Situation.isOnBoard(nextColumn, nextRow)) {
                setIfFree(cat, Math.floorMod(nextColumn, 8), Math.floorMod(nextRow, 8));
                setIfFree(cat, nextNumber / 8, nextNumber % 8);
            }
        });
    }

    private static void setIfFree(CatEvenings cat, int column, int row) {
        if (Situation.isOnBoard(column, row) && cat.pieceAt(column, row) == -1) {
            cat.setPiece(column, row);
        }
    }

    /** Terms, push: "which has to stand .. It is refused, if .. it lies". */
    private static void termsPushRefusedItLies() {
        cannot(Situation.INNER, PUSH, 7);
        for (int heading = 0; heading < 8; heading++) {
            int column = 3 + Situation.COLUMNS[heading];
            int row = 3 + Situation.ROWS[heading];
            Situation lying = knocked(at(withPiece(Situation.NEW, column, row), 3, 3), 0);
            cannot(lying, PUSH, heading);
            Situation setUp = lying.then("set up", cat -> cat.paw(SET_UP, 0));
            due(setUp.name() + ": " + called("paw", PUSH, heading), setUp.make().paw(PUSH, heading), 6);
        }
    }

    /** Terms, push: "It is refused, if .. another piece is there", one that stands or one that lies. */
    private static void termsPushRefusedAnotherPieceIsThere() {
        for (int heading = 0; heading < 8; heading++) {
            int columns = Situation.COLUMNS[heading];
            int rows = Situation.ROWS[heading];
            Situation two = withPiece(withPiece(Situation.NEW, 3 + columns, 3 + rows), 3 + 2 * columns, 3 + 2 * rows);
            cannot(at(two, 3, 3), PUSH, heading);
            Situation lying = knocked(at(two, 3 + columns, 3 + rows), 1);
            cannot(at(lying, 3, 3), PUSH, heading);
            due("push of the piece behind", at(two, 3 + columns, 3 + rows).make().canDo(PUSH, heading),
                Situation.isOnBoard(3 + 3 * columns, 3 + 3 * rows));
        }
    }

    /** Terms, push: just the piece one farther moves, whatever its number, and none else. */
    private static void termsPushLeavesOtherPieces() {
        Situation corner = at(Situation.SIXTEEN_PIECES, 3, 2);
        CatEvenings cat = corner.then("knock of 10", c -> c.paw(KNOCK, 10)).make();
        cat.paw(PUSH, 0);
        for (int piece = 0; piece < 16; piece++) {
            int place = 8 * (piece / 4) + piece % 4;
            due("placeOf(" + piece + ")", cat.placeOf(piece), piece == 15 ? 8 * 3 + 4 : place);
            due("lies(" + piece + ")", cat.lies(piece), piece == 10);
        }
        catIsAt(cat, "a push of 15", 3, 3);
    }

    // ---- promise 3

    /** Promise 3: "Throws IllegalArgumentException if kind is not 0 to 3", with whatever number. */
    private static void promise3KindIsNotZeroToThree() {
        for (int kind : new int[] {LOW, -1, 4, HIGH}) {
            for (int number : new int[] {LOW, -1, 0, 7, 8, 15, 16, HIGH}) {
                pawRefused(Situation.ONE_PIECE, ILLEGAL, kind, number);
                pawRefused(Situation.INNER, ILLEGAL, kind, number);
            }
        }
    }

    /** Promise 3: "Throws IllegalArgumentException if .. number is not 0 to 7 for the kinds 0 and 3". */
    private static void promise3NumberOfStepAndPush() {
        for (int kind : new int[] {STEP, PUSH}) {
            for (int number : new int[] {LOW, -1, 8, 15, 16, HIGH}) {
                pawRefused(Situation.ONE_PIECE, ILLEGAL, kind, number);
                pawRefused(Situation.SIXTEEN_PIECES, ILLEGAL, kind, number);
            }
        }
        Situation least = at(withPiece(withPiece(Situation.NEW, 3, 4), 2, 4), 3, 3);
        due("paw(0, 0)", least.make().paw(STEP, 0), 4);
        due("paw(0, 7)", least.make().paw(STEP, 7), 4);
        due("paw(3, 0)", least.make().paw(PUSH, 0), 4);
        due("paw(3, 7)", least.make().paw(PUSH, 7), 4);
    }

    /** Promise 3: "or not 0 to 15 for the kinds 1 and 2"; 0 and 15 are refused only where there is no such piece. */
    private static void promise3NumberOfKnockAndSetUp() {
        for (int kind : new int[] {KNOCK, SET_UP}) {
            for (int number : new int[] {LOW, -1, 16, HIGH}) {
                pawRefused(Situation.NEW, ILLEGAL, kind, number);
                pawRefused(Situation.SIXTEEN_PIECES, ILLEGAL, kind, number);
            }
            pawRefused(Situation.NEW, STATE, kind, 0);
            pawRefused(Situation.NEW, STATE, kind, 15);
        }
        CatEvenings cat = at(Situation.SIXTEEN_PIECES, 3, 3).make();
        due("paw(1, 15)", cat.paw(KNOCK, 15), 4);
        due("paw(2, 15)", cat.paw(SET_UP, 15), 5);
        CatEvenings first = Situation.SIXTEEN_PIECES.make();
        due("paw(1, 0)", first.paw(KNOCK, 0), 1);
        due("paw(2, 0)", first.paw(SET_UP, 0), 2);
    }

    /** Promise 3: "Throws IllegalStateException if .. there are 60 evenings"; Terms: "the evening 0 as well". */
    private static void promise3ThereAreSixtyEvenings() {
        Situation fiftyNine = Situation.ONE_PIECE.then("59 evenings", cat -> {
            for (int paw = 1; paw < 59; paw++) {
                cat.paw(paw % 2 == 1 ? KNOCK : SET_UP, 0);
            }
        });
        int[][] paws = {{STEP, 1}, {KNOCK, 0}, {PUSH, 0}};
        for (int[] paw : paws) {
            CatEvenings cat = fiftyNine.make();
            due("paw of kind " + paw[0] + ", the 59th", cat.paw(paw[0], paw[1]), 59);
            due("evenings()", cat.evenings(), 60);
        }
        Situation sixty = fiftyNine.then("the 59th", cat -> cat.paw(KNOCK, 0));
        pawRefused(sixty, STATE, STEP, 1);
        pawRefused(sixty, STATE, SET_UP, 0);
        Situation undone = sixty.then("undone", cat -> cat.undo(59));
        for (int[] paw : paws) {
            due("canDo of kind " + paw[0], undone.make().canDo(paw[0], paw[1]), true);
            pawRefused(undone, STATE, paw[0], paw[1]);
        }
        pawRefused(Situation.CHAIN_OF_60, STATE, STEP, 4);
        pawRefused(Situation.CHAIN_OF_60.then("goTo(30)", cat -> cat.goTo(30)), STATE, STEP, 0);
        pawRefused(Situation.STAR_OF_60, STATE, STEP, 0);
        pawRefused(Situation.STAR_OF_60.then("goTo(0)", cat -> cat.goTo(0)), STATE, STEP, 0);
    }

    /** Terms: "If several exceptions apply, the one that is named first is thrown", for promise 3. */
    private static void promise3IllegalArgumentIsNamedFirst() {
        for (Situation situation : new Situation[] {Situation.NEW, Situation.CHAIN_OF_60, Situation.STAR_OF_60}) {
            for (int[] paw : new int[][] {{-1, 0}, {4, 0}, {STEP, -1}, {STEP, 8}, {KNOCK, -1}, {KNOCK, 16},
                {SET_UP, -1}, {SET_UP, 16}, {PUSH, -1}, {PUSH, 8}}) {
                pawRefused(situation, ILLEGAL, paw[0], paw[1]);
            }
        }
    }

    // ---- promises 15 and 16

    /** Promise 15: "Throws IllegalArgumentException if column or row is not 0 to 7". */
    private static void promise15ColumnOrRowIsNotZeroToSeven() {
        for (int off : OFF_BOARD) {
            for (int on = 0; on <= 7; on += 7) {
                pieceAtRefused(off, on);
                pieceAtRefused(on, off);
            }
            for (int other : OFF_BOARD) {
                pieceAtRefused(off, other);
            }
        }
    }

    private static void pieceAtRefused(int column, int row) {
        for (Situation situation : new Situation[] {Situation.NEW, Situation.INNER}) {
            CHECK.refusedIn(situation, ILLEGAL, called("pieceAt", column, row), cat -> cat.pieceAt(column, row));
        }
    }

    /** Promise 15: "Returns the piece at this place; -1 if there is none." The cat is no piece. */
    private static void promise15NoPiece() {
        CatEvenings empty = new CatEvenings();
        CatEvenings full = Situation.SIXTEEN_PIECES.make();
        for (int column = 0; column <= 7; column++) {
            for (int row = 0; row <= 7; row++) {
                due("empty: " + called("pieceAt", column, row), empty.pieceAt(column, row), -1);
                due("full: " + called("pieceAt", column, row), full.pieceAt(column, row),
                    column < 4 && row < 4 ? 4 * column + row : -1);
            }
        }
    }

    private static void canDoRefused(Situation situation, int kind, int number) {
        CHECK.refusedIn(situation, ILLEGAL, called("canDo", kind, number), cat -> cat.canDo(kind, number));
    }

    /** Promise 16: "Throws IllegalArgumentException if kind is not 0 to 3". */
    private static void promise16KindIsNotZeroToThree() {
        for (int kind : new int[] {LOW, -1, 4, HIGH}) {
            for (int number : new int[] {LOW, -1, 0, 7, 8, 15, 16, HIGH}) {
                canDoRefused(Situation.ONE_PIECE, kind, number);
            }
            canDoRefused(Situation.CHAIN_OF_60, kind, 0);
        }
    }

    /** Promise 16: "or number is not 0 to 7 for the kinds 0 and 3, or not 0 to 15 for the kinds 1 and 2". */
    private static void promise16NumberIsNotOfTheKind() {
        for (int kind = 0; kind <= 3; kind++) {
            int most = kind == STEP || kind == PUSH ? 7 : 15;
            for (int number : new int[] {LOW, -1, most + 1, 16, HIGH}) {
                canDoRefused(Situation.NEW, kind, number);
                canDoRefused(Situation.SIXTEEN_PIECES, kind, number);
            }
        }
        CatEvenings cat = Situation.SIXTEEN_PIECES.make();
        due("canDo(0, 0)", cat.canDo(STEP, 0), true);
        due("canDo(0, 7)", cat.canDo(STEP, 7), false);
        due("canDo(1, 0)", cat.canDo(KNOCK, 0), true);
        due("canDo(1, 15)", cat.canDo(KNOCK, 15), false);
        due("canDo(2, 0)", cat.canDo(SET_UP, 0), false);
        due("canDo(2, 15)", cat.canDo(SET_UP, 15), false);
        due("canDo(3, 0)", cat.canDo(PUSH, 0), false);
        due("canDo(3, 7)", cat.canDo(PUSH, 7), false);
    }

    private static boolean isAPaw(int kind, int number) {
        return number < (kind == STEP || kind == PUSH ? 8 : 16);
    }

    /** Promise 16: "Returns whether it could be done now .. (nothing is changed)." */
    private static void promise16AgreesWithPaw() {
        Situation lying = knocked(knocked(at(Situation.SIXTEEN_PIECES, 3, 3), 15), 10);
        Situation corner = at(Situation.SIXTEEN_PIECES, 4, 3);
        for (Situation situation : new Situation[] {Situation.NEW, Situation.ONE_PIECE, Situation.SIXTEEN_PIECES,
            Situation.BRANCHED, Situation.INNER, lying, corner}) {
            for (int i = 0; i < 64; i++) {
                int kind = i / 16;
                int number = i % 16;
                if (isAPaw(kind, number)) {
                    String call = called("canDo", kind, number);
                    boolean refused = Check.answer(() -> situation.make().paw(kind, number)) instanceof String;
                    due(situation.name() + ": " + call, situation.make().canDo(kind, number), !refused);
                    CHECK.changesNothing(situation, call, cat -> cat.canDo(kind, number));
                }
            }
        }
    }

    /** Promise 16: "but for how many evenings there are": the board of 59 and of 60 evenings allows the same paws. */
    private static void promise16ButForHowManyEvenings() {
        CatEvenings full = Situation.CHAIN_OF_60.make();
        CatEvenings roomy = at(Situation.SIXTEEN_PIECES, 0, 1).make();
        for (int i = 0; i < 64; i++) {
            if (isAPaw(i / 16, i % 16)) {
                due("60 evenings: " + called("canDo", i / 16, i % 16), full.canDo(i / 16, i % 16),
                    roomy.canDo(i / 16, i % 16));
            }
        }
        due("60 evenings: canDo(0, 4)", full.canDo(STEP, 4), true);
        due("60 evenings: canDo(1, 0)", full.canDo(KNOCK, 0), true);
        due("60 evenings: canDo(0, 6)", full.canDo(STEP, 6), false);
        CHECK.changesNothing(Situation.CHAIN_OF_60, "canDo(0, 4)", cat -> cat.canDo(STEP, 4));
    }
}

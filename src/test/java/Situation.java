import java.util.function.Consumer;
import java.util.function.Supplier;

/** A way to make an object in one state, as often as it is asked for; none here takes more than 140 calls. */
record Situation(String name, Supplier<CatEvenings> maker) {
    static final int STEP = 0;
    static final int KNOCK = 1;
    static final int SET_UP = 2;
    static final int PUSH = 3;

    /** Nothing there yet: no piece, the evening 0 alone. */
    static final Situation NEW = new Situation("a new object", CatEvenings::new);

    static final Situation ONE_PIECE = NEW.then("a piece at 0, 1", cat -> cat.setPiece(0, 1));

    /** 16 pieces on the columns 0 to 3 and the rows 0 to 3; the number is the column, 4 times, and the row. */
    static final Situation SIXTEEN_PIECES = NEW.then("16 pieces", cat -> {
        for (int piece = 0; piece < 16; piece++) {
            cat.setPiece(piece / 4, piece % 4);
        }
    });

    /** 0 - 1 - 2 - 3, 2 - 4 - 5, 0 - 6; the evening of now is 6. */
    static final Situation BRANCHED = ONE_PIECE.then("three branches", cat -> {
        cat.paw(KNOCK, 0);
        walk(cat, 2, 0);
        cat.undo(1);
        walk(cat, 2, 6);
        cat.undo(4);
        cat.paw(PUSH, 0);
    });

    /** The evening of now is 2, on which 3 and 4 hang, and in 4 one was the last. */
    static final Situation INNER = BRANCHED.then("goTo(2)", cat -> cat.goTo(2));

    /** 60 evenings, each on the one ahead of it; the evening of now is 59. */
    static final Situation CHAIN_OF_60 = SIXTEEN_PIECES.then("a chain of 60 evenings", cat -> {
        for (int paw = 1; paw < 60; paw++) {
            walk(cat, paw % 2 == 1 ? 0 : 4);
        }
    });

    /** 59 evenings that hang on the evening 0, each a step by 1; the evening of now is 59. */
    static final Situation STAR_OF_60 = SIXTEEN_PIECES.then("a star of 60 evenings", cat -> {
        for (int paw = 1; paw < 60; paw++) {
            cat.goTo(0);
            walk(cat, paw % 3);
        }
    });

    CatEvenings make() {
        return maker.get();
    }

    Situation then(String more, Consumer<CatEvenings> calls) {
        return new Situation(name + ", " + more, () -> {
            CatEvenings cat = maker.get();
            calls.accept(cat);
            return cat;
        });
    }

    /** Those in which no evening hangs on that of now. */
    static Situation[] atAnEnd() {
        return new Situation[] {NEW, ONE_PIECE, SIXTEEN_PIECES, BRANCHED, CHAIN_OF_60, STAR_OF_60};
    }

    static Situation[] all() {
        return new Situation[] {NEW, ONE_PIECE, SIXTEEN_PIECES, BRANCHED, INNER, CHAIN_OF_60, STAR_OF_60};
    }

    static void walk(CatEvenings cat, int... headings) {
        for (int heading : headings) {
            cat.paw(STEP, heading);
        }
    }

    /** Steps to the place from whatever place; at most 7 of them. */
    static void walkTo(CatEvenings cat, int column, int row) {
        for (int steps = 0; steps < 7; steps++) {
            int columns = Integer.signum(column - cat.catColumn());
            int rows = Integer.signum(row - cat.catRow());
            if (columns != 0 || rows != 0) {
                walk(cat, headingOf(columns, rows));
            }
        }
    }

    /** The heading's number by its columns and rows, from the document's table. */
    static int headingOf(int columns, int rows) {
        for (int heading = 0; heading < 8; heading++) {
            if (COLUMNS[heading] == columns && ROWS[heading] == rows) {
                return heading;
            }
        }
        throw new AssertionError("no heading");
    }

    /** "0 is a row more, and each one more an eighth of a circle farther, by columns that get more". */
    static final int[] COLUMNS = {0, 1, 1, 1, 0, -1, -1, -1};
    static final int[] ROWS = {1, 1, 0, -1, -1, -1, 0, 1};

    static boolean isOnBoard(int column, int row) {
        return column >= 0 && column <= 7 && row >= 0 && row <= 7;
    }
}

import java.util.ArrayList;
import java.util.List;
import java.util.function.Supplier;

/** Long runs of calls on the class and on the model, whose answers have to agree. */
public final class ModelTest {
    private static final int RUNS = 60;
    /** The document promises no answer behind the 512th call. */
    private static final int CALLS = 512;

    private static final Check CHECK = new Check();

    private final int run;
    private final CatEvenings cat = new CatEvenings();
    private final Model model = new Model();
    private final List<String> told = new ArrayList<>();
    private long seed;
    private int calls = 0;

    private ModelTest(int run) {
        this.run = run;
        this.seed = run * 7919L + 17;
    }

    public static void main(String[] args) {
        for (int run = 0; run < RUNS; run++) {
            new ModelTest(run).play();
        }
        CHECK.end();
    }

    /** The same numbers in every run of the test: 0 to below - 1. */
    private int next(int below) {
        seed = seed * 6364136223846793005L + 1442695040888963407L;
        return (int) ((seed >>> 33) % below);
    }

    private void play() {
        int pieces = run % 4 == 0 ? next(3) : 4 + next(14);
        int side = run % 3 == 0 ? 3 : 8;
        for (int i = 0; i < pieces; i++) {
            int column = next(side);
            int row = next(side);
            both("setPiece(" + column + ", " + row + ")", () -> cat.setPiece(column, row),
                () -> model.setPiece(column, row));
        }
        while (calls < CALLS - 4) {
            change();
            both("digest()", cat::digest, model::digest);
            ask();
            ask();
        }
        while (calls < CALLS) {
            ask();
        }
    }

    private void both(String call, Supplier<Object> got, Supplier<Object> want) {
        calls++;
        told.add(call);
        CHECK.due("run " + run + ", behind " + told.size() + " calls: " + call, Check.answer(got),
            Check.answer(want));
    }

    /** Mostly an evening that there is, at times one that there is not. */
    private int anEvening() {
        return next(12) == 0 ? next(64) - 2 : next(model.evenings());
    }

    private int aPiece() {
        return next(10) == 0 ? next(20) - 2 : next(Math.max(1, model.pieces()));
    }

    private void change() {
        int which = next(20);
        if (which < 12) {
            somePaw();
        } else if (which < 15) {
            int many = next(8) == 0 ? next(64) - 1 : 1 + next(3);
            both("undo(" + many + ")", () -> cat.undo(many), () -> model.undo(many));
        } else if (which < 17) {
            int many = next(8) == 0 ? next(64) - 1 : 1 + next(3);
            both("redo(" + many + ")", () -> cat.redo(many), () -> model.redo(many));
        } else if (which < 19) {
            int evening = anEvening();
            both("goTo(" + evening + ")", () -> cat.goTo(evening), () -> model.goTo(evening));
        } else {
            int column = next(10) - 1;
            int row = next(10) - 1;
            both("setPiece(" + column + ", " + row + ")", () -> cat.setPiece(column, row),
                () -> model.setPiece(column, row));
        }
    }

    /** Of some tries the first paw that can be done, so that not nearly all are refused. */
    private void somePaw() {
        int kind = 0;
        int number = 0;
        for (int tries = 0; tries < 6; tries++) {
            kind = next(30) == 0 ? next(7) - 1 : next(4);
            number = next(30) == 0 ? next(20) - 2 : next(kind == 1 || kind == 2 ? Math.max(1, model.pieces()) : 8);
            int triedKind = kind;
            int triedNumber = number;
            if (Check.answer(() -> model.canDo(triedKind, triedNumber)).equals(true)) {
                break;
            }
        }
        int theKind = kind;
        int theNumber = number;
        both("paw(" + kind + ", " + number + ")", () -> cat.paw(theKind, theNumber),
            () -> model.paw(theKind, theNumber));
    }

    private void ask() {
        int e = anEvening();
        int f = anEvening();
        int p = aPiece();
        int column = next(10) - 1;
        int row = next(10) - 1;
        int kind = next(6) - 1;
        int number = next(18) - 1;
        switch (next(26)) {
            case 0 -> both("evening()", cat::evening, model::evening);
            case 1 -> both("evenings()", cat::evenings, model::evenings);
            case 2 -> both("pieces()", cat::pieces, model::pieces);
            case 3 -> both("catColumn()", cat::catColumn, model::catColumn);
            case 4 -> both("catRow()", cat::catRow, model::catRow);
            case 5 -> both("lying()", cat::lying, model::lying);
            case 6 -> both("placeOf(" + p + ")", () -> cat.placeOf(p), () -> model.placeOf(p));
            case 7 -> both("lies(" + p + ")", () -> cat.lies(p), () -> model.lies(p));
            case 8 -> both("pieceAt(" + column + ", " + row + ")", () -> cat.pieceAt(column, row),
                () -> model.pieceAt(column, row));
            case 9 -> both("canDo(" + kind + ", " + number + ")", () -> cat.canDo(kind, number),
                () -> model.canDo(kind, number));
            case 10 -> both("hangsOn(" + e + ")", () -> cat.hangsOn(e), () -> model.hangsOn(e));
            case 11 -> both("kindOf(" + e + ")", () -> cat.kindOf(e), () -> model.kindOf(e));
            case 12 -> both("numberOf(" + e + ")", () -> cat.numberOf(e), () -> model.numberOf(e));
            case 13 -> both("depthOf(" + e + ")", () -> cat.depthOf(e), () -> model.depthOf(e));
            case 14 -> both("branches(" + e + ")", () -> cat.branches(e), () -> model.branches(e));
            case 15 -> both("behind(" + e + ")", () -> cat.behind(e), () -> model.behind(e));
            case 16 -> both("again(" + e + ")", () -> cat.again(e), () -> model.again(e));
            case 17 -> both("meet(" + e + ", " + f + ")", () -> cat.meet(e, f), () -> model.meet(e, f));
            case 18 -> both("apart(" + e + ", " + f + ")", () -> cat.apart(e, f), () -> model.apart(e, f));
            case 19 -> both("ends()", cat::ends, model::ends);
            case 20 -> both("placeIn(" + e + ", " + p + ")", () -> cat.placeIn(e, p), () -> model.placeIn(e, p));
            case 21 -> both("lyingIn(" + e + ")", () -> cat.lyingIn(e), () -> model.lyingIn(e));
            case 22 -> both("areAlike(" + e + ", " + f + ")", () -> cat.areAlike(e, f), () -> model.areAlike(e, f));
            case 23 -> both("mostKnocked()", cat::mostKnocked, model::mostKnocked);
            case 24 -> both("meanDepth()", cat::meanDepth, model::meanDepth);
            default -> both("digest()", cat::digest, model::digest);
        }
    }
}

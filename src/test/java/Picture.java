import java.util.ArrayList;
import java.util.List;
import java.util.function.Function;

/** All that an object answers, and what each next call would do; two objects in one state have like pictures. */
final class Picture {
    /** An object is used for at most 512 calls, so not all is asked of one. */
    private static final int ASKED_OF_ONE = 250;

    private record Question(String call, Function<CatEvenings, Object> ask) {
        String answeredBy(CatEvenings cat) {
            return call + " answers " + Check.answer(() -> ask.apply(cat));
        }
    }

    private final List<Question> questions = new ArrayList<>();
    private final List<Question> moves = new ArrayList<>();
    private final int pieces;
    private final int evenings;

    private Picture(CatEvenings sample) {
        pieces = sample.pieces();
        evenings = sample.evenings();
        askOfNow();
        askOfEvenings();
        askOfPairs();
        move();
    }

    static List<String> of(Situation situation) {
        Picture picture = new Picture(situation.make());
        List<String> answers = new ArrayList<>();
        CatEvenings asked = null;
        for (int i = 0; i < picture.questions.size(); i++) {
            asked = i % ASKED_OF_ONE == 0 ? situation.make() : asked;
            answers.add(picture.questions.get(i).answeredBy(asked));
        }
        for (Question move : picture.moves) {
            CatEvenings moved = situation.make();
            answers.add(move.answeredBy(moved) + ", digest() then " + moved.digest());
        }
        return answers;
    }

    private void ask(String call, Function<CatEvenings, Object> ask) {
        questions.add(new Question(call, ask));
    }

    private void move(String call, Function<CatEvenings, Object> ask) {
        moves.add(new Question(call, ask));
    }

    private void askOfNow() {
        ask("evening()", CatEvenings::evening);
        ask("evenings()", CatEvenings::evenings);
        ask("pieces()", CatEvenings::pieces);
        ask("catColumn()", CatEvenings::catColumn);
        ask("catRow()", CatEvenings::catRow);
        ask("lying()", CatEvenings::lying);
        ask("ends()", CatEvenings::ends);
        ask("mostKnocked()", CatEvenings::mostKnocked);
        ask("meanDepth()", CatEvenings::meanDepth);
        ask("digest()", CatEvenings::digest);
        for (int i = 0; i < 64; i++) {
            int x = i;
            ask("pieceAt of " + x, cat -> cat.pieceAt(x / 8, x % 8));
            ask("canDo of " + x, cat -> cat.canDo(x / 16, x % 16));
        }
        for (int i = 0; i <= pieces; i++) {
            int piece = i;
            ask("placeOf(" + piece + ")", cat -> cat.placeOf(piece));
            ask("lies(" + piece + ")", cat -> cat.lies(piece));
        }
    }

    private void askOfEvenings() {
        for (int i = 0; i <= evenings; i++) {
            int e = i;
            ask("hangsOn(" + e + ")", cat -> cat.hangsOn(e));
            ask("kindOf(" + e + ")", cat -> cat.kindOf(e));
            ask("numberOf(" + e + ")", cat -> cat.numberOf(e));
            ask("depthOf(" + e + ")", cat -> cat.depthOf(e));
            ask("branches(" + e + ")", cat -> cat.branches(e));
            ask("behind(" + e + ")", cat -> cat.behind(e));
            ask("again(" + e + ")", cat -> cat.again(e));
            ask("lyingIn(" + e + ")", cat -> cat.lyingIn(e));
            for (int piece = 0; piece <= pieces; piece++) {
                int p = piece;
                ask("placeIn(" + e + ", " + p + ")", cat -> cat.placeIn(e, p));
            }
        }
    }

    private void askOfPairs() {
        for (int i = 0; i < evenings; i++) {
            for (int j = 0; j < evenings; j += 1 + evenings / 8) {
                int e = i;
                int f = j;
                ask("meet(" + e + ", " + f + ")", cat -> cat.meet(e, f));
                ask("apart(" + e + ", " + f + ")", cat -> cat.apart(e, f));
                ask("areAlike(" + e + ", " + f + ")", cat -> cat.areAlike(e, f));
            }
        }
    }

    private void move() {
        move("setPiece(6, 6)", cat -> cat.setPiece(6, 6));
        move("setPiece(0, 1)", cat -> cat.setPiece(0, 1));
        for (int i = 1; i <= 3; i++) {
            int many = i;
            move("undo(" + many + ")", cat -> cat.undo(many));
            move("redo(" + many + ")", cat -> cat.redo(many));
            move("goTo(0), redo(" + many + ")", cat -> cat.goTo(0) + cat.redo(many));
        }
        move("undo(59)", cat -> cat.undo(59));
        move("goTo of the last", cat -> cat.goTo(evenings - 1));
        for (int i = 0; i < 64; i++) {
            int x = i;
            move("paw of " + x, cat -> cat.paw(x / 16, x % 16));
        }
    }
}

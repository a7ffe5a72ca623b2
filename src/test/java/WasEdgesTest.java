import java.math.BigInteger;
import java.util.ArrayList;
import java.util.List;
import java.util.function.ToIntBiFunction;

/**
 * The edges of what one asks about pieces and about how the board stood, sentence by sentence: the promises 13, 14 and
 * 27 to 32. What is quoted ahead of a test is the sentence that it holds.
 */
public final class WasEdgesTest {
    private static final int STEP = Situation.STEP;
    private static final int KNOCK = Situation.KNOCK;
    private static final int SET_UP = Situation.SET_UP;
    private static final int PUSH = Situation.PUSH;
    private static final int LOW = Integer.MIN_VALUE;
    private static final int HIGH = Integer.MAX_VALUE;

    private static final Class<IndexOutOfBoundsException> MISSING = IndexOutOfBoundsException.class;

    private static final Check CHECK = new Check();

    /** Pieces at the four corners, the last of which is knocked and the others not; the evening of now is 8. */
    private static final Situation CORNERS = Situation.NEW.then("pieces at the corners, 3 lies", cat -> {
        cat.setPiece(0, 0);
        cat.setPiece(0, 7);
        cat.setPiece(7, 0);
        cat.setPiece(7, 7);
        Situation.walkTo(cat, 7, 7);
        cat.paw(KNOCK, 3);
    });

    public static void main(String[] args) {
        promise13NoSuchPiece();
        promise13LeastAndGreatestPlace();
        promise14NoSuchPiece();
        promise14StandsAndLies();
        promise27NoSuchEveningOrPiece();
        promise27LeastAndGreatestPlace();
        promise27NothingIsChanged();
        promise28NoSuchEvening();
        promise28NoneToAll();
        promise29NoSuchEvening();
        promise29AlikeByAnotherWay();
        promise29OneThingIsOther();
        promise29PiecesAtEachOthersPlaces();
        promise29WithoutPieces();
        promise30WithoutPieces();
        promise30OfSeveralTheSmallest();
        promise30FirstAndLastPiece();
        promise30EveningsOfTheTree();
        promise30SetUpAndPushedAndStepped();
        promise31FromZeroToTheDeepest();
        promise31NotWhole();
        promise31UndoingChangesNothing();
        promise32NewObject();
        promise32WrapsAround();
        promise32InEachSituation();
        CHECK.end();
    }

    private static void due(String call, Object got, Object want) {
        CHECK.due(call, got, want);
    }

    /** The least and the greatest int, and those next to the pieces that there are, with no piece and with 16. */
    private static void noSuchPiece(String call, ToIntBiFunction<CatEvenings, Integer> run) {
        for (Situation situation : Situation.all()) {
            int pieces = situation.make().pieces();
            for (int wrong : new int[] {LOW, -1, pieces, 16, HIGH}) {
                CHECK.refusedIn(situation, MISSING, call + " of " + wrong, cat -> run.applyAsInt(cat, wrong));
            }
            for (int right = 0; right < pieces; right += Math.max(1, pieces - 1)) {
                int piece = right;
                boolean thrown = Check.answer(() -> run.applyAsInt(situation.make(), piece)) instanceof String;
                due(situation.name() + ": " + call + " of " + right + " throws", thrown, false);
            }
        }
    }

    private static void noSuchEvening(String call, ToIntBiFunction<CatEvenings, Integer> run) {
        for (Situation situation : Situation.all()) {
            int evenings = situation.make().evenings();
            for (int wrong : new int[] {LOW, -1, evenings, 60, HIGH}) {
                CHECK.refusedIn(situation, MISSING, call + " of " + wrong, cat -> run.applyAsInt(cat, wrong));
            }
        }
    }

    // ---- promises 13 and 14

    /** Promise 13: "Throws IndexOutOfBoundsException if there is no such piece". */
    private static void promise13NoSuchPiece() {
        noSuchPiece("placeOf", (cat, piece) -> cat.placeOf(piece));
    }

    /** Promise 13: "Returns its column, 8 times, and its row, added": 0 to 63, and no more if it lies. */
    private static void promise13LeastAndGreatestPlace() {
        CatEvenings cat = CORNERS.make();
        int[] places = {0, 7, 56, 63};
        for (int piece = 0; piece < 4; piece++) {
            due("placeOf(" + piece + ")", cat.placeOf(piece), places[piece]);
        }
    }

    /** Promise 14: "Throws IndexOutOfBoundsException if there is no such piece". */
    private static void promise14NoSuchPiece() {
        noSuchPiece("lies", (cat, piece) -> cat.lies(piece) ? 1 : 0);
    }

    /** Promise 14: "Returns whether it lies", of the first piece and of the last of 16, now and behind undoing. */
    private static void promise14StandsAndLies() {
        CatEvenings cat = allKnocked().make();
        for (int piece = 0; piece < 16; piece++) {
            due("lies(" + piece + "), knocked", cat.lies(piece), true);
        }
        cat.paw(SET_UP, 15);
        due("lies(15), set up", cat.lies(15), false);
        due("lies(14)", cat.lies(14), true);
        cat.goTo(0);
        for (int piece = 0; piece < 16; piece++) {
            due("lies(" + piece + "), undone", cat.lies(piece), false);
        }
    }

    /** The 16 pieces are knocked, from the first to the last. */
    private static Situation allKnocked() {
        return Situation.SIXTEEN_PIECES.then("all knocked", cat -> {
            for (int piece = 0; piece < 16; piece++) {
                Situation.walkTo(cat, piece / 4, piece % 4);
                cat.paw(KNOCK, piece);
            }
        });
    }

    // ---- promises 27 and 28

    /** Promise 27: "Throws IndexOutOfBoundsException if there is no such evening or piece". */
    private static void promise27NoSuchEveningOrPiece() {
        noSuchPiece("placeIn(0, piece)", (cat, piece) -> cat.placeIn(0, piece));
        noSuchEvening("placeIn(evening, 0)", (cat, evening) -> cat.placeIn(evening, 0));
        noSuchEvening("placeIn(evening, 16)", (cat, evening) -> cat.placeIn(evening, 16));
        noSuchEvening("placeIn, both", (cat, wrong) -> cat.placeIn(wrong, wrong));
    }

    /** Promise 27: "Returns its place in this evening, as placeOf(), and 100 more if it lies there": 0 to 163. */
    private static void promise27LeastAndGreatestPlace() {
        CatEvenings cat = CORNERS.make();
        int[] places = {0, 7, 56, 63};
        for (int piece = 0; piece < 4; piece++) {
            due("placeIn(0, " + piece + ")", cat.placeIn(0, piece), places[piece]);
            due("placeIn(8, " + piece + ")", cat.placeIn(8, piece), places[piece] + (piece == 3 ? 100 : 0));
        }
        CatEvenings first = Situation.SIXTEEN_PIECES.make();
        first.paw(KNOCK, 0);
        first.paw(SET_UP, 0);
        first.goTo(0);
        due("placeIn(1, 0), it lies there", first.placeIn(1, 0), 100);
        due("placeIn(2, 0), it is set up there", first.placeIn(2, 0), 0);
        due("placeIn(2, 15)", first.placeIn(2, 15), 27);
    }

    /** Promises 27 to 29: "(nothing is changed)"; and the promises 13, 14 and 30 to 32 ask alone, too. */
    private static void promise27NothingIsChanged() {
        for (Situation situation : new Situation[] {Situation.ONE_PIECE, Situation.BRANCHED, Situation.CHAIN_OF_60,
            Situation.STAR_OF_60}) {
            int last = situation.make().evenings() - 1;
            CHECK.changesNothing(situation, "placeIn(0, 0)", cat -> cat.placeIn(0, 0));
            CHECK.changesNothing(situation, "placeIn(last / 2, 0)", cat -> cat.placeIn(last / 2, 0));
            CHECK.changesNothing(situation, "lyingIn(last / 2)", cat -> cat.lyingIn(last / 2));
            CHECK.changesNothing(situation, "areAlike(0, last / 2)", cat -> cat.areAlike(0, last / 2));
            CHECK.changesNothing(situation, "placeOf(0)", cat -> cat.placeOf(0));
            CHECK.changesNothing(situation, "lies(0)", cat -> cat.lies(0));
            CHECK.changesNothing(situation, "mostKnocked()", CatEvenings::mostKnocked);
            CHECK.changesNothing(situation, "meanDepth()", CatEvenings::meanDepth);
            CHECK.changesNothing(situation, "digest()", CatEvenings::digest);
        }
    }

    /** Promise 28: "Throws IndexOutOfBoundsException if there is no such evening". */
    private static void promise28NoSuchEvening() {
        noSuchEvening("lyingIn", (cat, evening) -> cat.lyingIn(evening));
    }

    /** Promise 28: "Returns how many pieces lie in it", 0 to 16, whatever the evening of now. */
    private static void promise28NoneToAll() {
        due("lyingIn(0) without pieces", new CatEvenings().lyingIn(0), 0);
        for (int now : new int[] {0, 1, allKnocked().make().evening()}) {
            CatEvenings cat = allKnocked().make();
            cat.goTo(now);
            due("lyingIn(0)", cat.lyingIn(0), 0);
            due("lyingIn(1)", cat.lyingIn(1), 1);
            int lying = 0;
            for (int evening = 1; evening < cat.evenings(); evening++) {
                lying += cat.kindOf(evening) == KNOCK ? 1 : 0;
                due("lyingIn(" + evening + ")", cat.lyingIn(evening), lying);
            }
            due("lyingIn of the last", lying, 16);
        }
    }

    // ---- promise 29

    /** Promise 29: "Throws IndexOutOfBoundsException if there is no such evening". */
    private static void promise29NoSuchEvening() {
        noSuchEvening("areAlike with one", (cat, wrong) -> cat.areAlike(wrong, 0) ? 1 : 0);
        noSuchEvening("areAlike with other", (cat, wrong) -> cat.areAlike(0, wrong) ? 1 : 0);
        noSuchEvening("areAlike with both", (cat, wrong) -> cat.areAlike(wrong, wrong) ? 1 : 0);
    }

    private static void alike(CatEvenings cat, int one, int other, boolean want) {
        due("areAlike(" + one + ", " + other + ")", cat.areAlike(one, other), want);
        due("areAlike(" + other + ", " + one + ")", cat.areAlike(other, one), want);
    }

    /** Promise 29: "Returns whether cat and pieces are in both as in each other": how it came so counts nothing. */
    private static void promise29AlikeByAnotherWay() {
        CatEvenings cat = Situation.SIXTEEN_PIECES.make();
        cat.paw(KNOCK, 0);
        cat.paw(KNOCK, 5);
        cat.undo(2);
        cat.paw(KNOCK, 5);
        cat.paw(KNOCK, 0);
        alike(cat, 2, 4, true);
        alike(cat, 1, 3, false);
        cat.paw(SET_UP, 0);
        cat.paw(SET_UP, 5);
        alike(cat, 0, 6, true);
        alike(cat, 5, 3, true);
        for (int evening = 0; evening < cat.evenings(); evening++) {
            alike(cat, evening, evening, true);
        }
    }

    /** Promise 29: "cat and pieces .. all of them": the cat's column, its row, each piece's place, whether it lies. */
    private static void promise29OneThingIsOther() {
        CatEvenings steps = Situation.SIXTEEN_PIECES.make();
        steps.paw(STEP, 0);
        steps.goTo(0);
        steps.paw(STEP, 2);
        alike(steps, 0, 1, false);
        alike(steps, 0, 2, false);
        alike(steps, 1, 2, false);
        for (int piece = 0; piece < 16; piece++) {
            CatEvenings knock = Situation.SIXTEEN_PIECES.make();
            Situation.walkTo(knock, piece / 4, piece % 4);
            int knocked = knock.paw(KNOCK, piece);
            alike(knock, knocked - 1, knocked, false);
        }
        pushedIsOther(Situation.ONE_PIECE, 0, 0, 0);
        pushedIsOther(Situation.SIXTEEN_PIECES, 0, 2, 0);
        pushedIsOther(Situation.SIXTEEN_PIECES, 3, 2, 0);
        pushedIsOther(Situation.SIXTEEN_PIECES, 2, 0, 2);
    }

    /** From the place, the cat comes to that of a piece by a push and, in another evening, by a step. */
    private static void pushedIsOther(Situation situation, int column, int row, int heading) {
        CatEvenings cat = situation.make();
        Situation.walkTo(cat, column, row);
        int ahead = cat.evening();
        int pushed = cat.paw(PUSH, heading);
        cat.goTo(ahead);
        int stepped = cat.paw(STEP, heading);
        alike(cat, pushed, stepped, false);
        alike(cat, stepped, stepped, true);
    }

    /** Promise 29, "all of them": two pieces that have come to each other's places are not as they were. */
    private static void promise29PiecesAtEachOthersPlaces() {
        CatEvenings cat = new CatEvenings();
        cat.setPiece(2, 2);
        cat.setPiece(3, 2);
        Situation.walkTo(cat, 2, 3);
        int ahead = cat.evening();
        Situation.walkTo(cat, 2, 1);
        cat.paw(PUSH, 0);
        Situation.walkTo(cat, 4, 2);
        cat.paw(PUSH, 6);
        Situation.walkTo(cat, 1, 4);
        int behind = cat.paw(PUSH, 3);
        due("placeOf(0)", cat.placeOf(0), 26);
        due("placeOf(1)", cat.placeOf(1), 18);
        due("catColumn()", cat.catColumn(), 2);
        due("catRow()", cat.catRow(), 3);
        alike(cat, ahead, behind, false);
    }

    /** Promise 29 with nothing there but the cat. */
    private static void promise29WithoutPieces() {
        CatEvenings cat = new CatEvenings();
        alike(cat, 0, 0, true);
        Situation.walk(cat, 0, 4, 2, 6);
        alike(cat, 0, 2, true);
        alike(cat, 2, 4, true);
        alike(cat, 1, 3, false);
        alike(cat, 0, 1, false);
    }

    // ---- promise 30

    /** Promise 30: "-1 without pieces". */
    private static void promise30WithoutPieces() {
        CatEvenings cat = new CatEvenings();
        due("mostKnocked() of a new object", cat.mostKnocked(), -1);
        Situation.walk(cat, 0, 0, 0);
        due("mostKnocked() behind steps", cat.mostKnocked(), -1);
        CHECK.state(cat, "paw(1, 0)", () -> cat.paw(KNOCK, 0));
        due("mostKnocked() behind a refused knock", cat.mostKnocked(), -1);
    }

    /** Promise 30: "of several the smallest number", with no knock at all too. */
    private static void promise30OfSeveralTheSmallest() {
        due("mostKnocked(), one piece", Situation.ONE_PIECE.make().mostKnocked(), 0);
        due("mostKnocked(), none is knocked", Situation.SIXTEEN_PIECES.make().mostKnocked(), 0);
        due("mostKnocked(), each once", allKnocked().make().mostKnocked(), 0);
        CatEvenings cat = Situation.SIXTEEN_PIECES.make();
        Situation.walkTo(cat, 2, 2);
        cat.paw(KNOCK, 15);
        due("mostKnocked(), 15 once", cat.mostKnocked(), 15);
        cat.paw(KNOCK, 10);
        due("mostKnocked(), 10 and 15 once", cat.mostKnocked(), 10);
        cat.paw(KNOCK, 14);
        due("mostKnocked(), 10, 14 and 15 once", cat.mostKnocked(), 10);
    }

    /** Promise 30: "Returns the piece that was knocked in the most evenings", of the first and the last of 16. */
    private static void promise30FirstAndLastPiece() {
        CatEvenings cat = allKnocked().make();
        cat.paw(SET_UP, 15);
        cat.paw(KNOCK, 15);
        due("mostKnocked(), 15 twice", cat.mostKnocked(), 15);
        cat.goTo(1);
        cat.paw(SET_UP, 0);
        cat.paw(KNOCK, 0);
        due("mostKnocked(), 0 and 15 twice", cat.mostKnocked(), 0);
    }

    /** Promise 30: "in the most evenings of the tree": undone ones count, done again ones count once. */
    private static void promise30EveningsOfTheTree() {
        CatEvenings cat = Situation.SIXTEEN_PIECES.make();
        cat.paw(KNOCK, 1);
        cat.undo(1);
        due("mostKnocked(), 1 is undone", cat.mostKnocked(), 1);
        cat.paw(KNOCK, 4);
        cat.undo(1);
        cat.paw(KNOCK, 4);
        due("mostKnocked(), 4 in two evenings", cat.mostKnocked(), 4);
        cat.goTo(1);
        for (int i = 0; i < 3; i++) {
            cat.undo(1);
            cat.redo(1);
        }
        due("mostKnocked(), 1 done again", cat.mostKnocked(), 4);
        Situation.walk(cat, 0, 4, 0, 4);
        due("mostKnocked(), 1 lies on for some evenings", cat.mostKnocked(), 4);
        CHECK.state(cat, "paw(1, 1), it lies", () -> cat.paw(KNOCK, 1));
        due("mostKnocked(), a refused knock", cat.mostKnocked(), 4);
    }

    /** Promise 30, "knocked": what has the number of a piece but is no knock counts nothing. */
    private static void promise30SetUpAndPushedAndStepped() {
        CatEvenings cat = Situation.SIXTEEN_PIECES.make();
        Situation.walkTo(cat, 3, 3);
        Situation.walk(cat, 6, 2, 6, 2);
        due("mostKnocked(), the headings 2 and 6", cat.mostKnocked(), 0);
        cat.paw(KNOCK, 15);
        cat.paw(SET_UP, 15);
        cat.paw(KNOCK, 14);
        cat.paw(KNOCK, 15);
        due("mostKnocked(), 15 twice", cat.mostKnocked(), 15);
        cat.paw(SET_UP, 14);
        cat.goTo(cat.evening() - 1);
        cat.paw(SET_UP, 14);
        due("mostKnocked(), 14 is set up twice", cat.mostKnocked(), 15);
        CatEvenings pushing = Situation.SIXTEEN_PIECES.make();
        Situation.walkTo(pushing, 2, 2);
        pushing.paw(PUSH, 1);
        due("mostKnocked(), a push of heading 1", pushing.mostKnocked(), 0);
    }

    // ---- promise 31

    /** Promise 31: "Returns the mean depth of evenings on which none hangs": 0 to 59. */
    private static void promise31FromZeroToTheDeepest() {
        due("meanDepth() of a new object", new CatEvenings().meanDepth(), 0.0);
        due("meanDepth() with pieces alone", Situation.SIXTEEN_PIECES.make().meanDepth(), 0.0);
        due("meanDepth() of a chain", Situation.CHAIN_OF_60.make().meanDepth(), 59.0);
        due("meanDepth() of a star", Situation.STAR_OF_60.make().meanDepth(), 1.0);
    }

    /** Promise 31: the mean is not cut to a whole number. */
    private static void promise31NotWhole() {
        due("meanDepth() of 3, 4 and 1", Situation.BRANCHED.make().meanDepth(), 8.0 / 3.0);
        CatEvenings cat = new CatEvenings();
        Situation.walk(cat, 0, 0);
        cat.goTo(0);
        Situation.walk(cat, 0);
        due("meanDepth() of 2 and 1", cat.meanDepth(), 1.5);
    }

    /** Promise 31, "of evenings on which none hangs": all of them, wherever one is now. */
    private static void promise31UndoingChangesNothing() {
        for (int evening = 0; evening <= 6; evening++) {
            CatEvenings cat = Situation.BRANCHED.make();
            cat.goTo(evening);
            due("meanDepth() in " + evening, cat.meanDepth(), 8.0 / 3.0);
        }
    }

    // ---- promise 32

    /** d by numbers without bounds, cut to 64 bits at the end. */
    private static long digestOf(List<Integer> numbers) {
        BigInteger d = BigInteger.valueOf(2251);
        for (int x : numbers) {
            d = d.multiply(BigInteger.valueOf(31)).add(BigInteger.valueOf(x));
        }
        return d.longValue();
    }

    /** Promise 32: "A number d starts with 2251 ..", all numbers by hand for an object with nothing there yet. */
    private static void promise32NewObject() {
        due("digest() of a new object", new CatEvenings().digest(),
            digestOf(List.of(0, 1, 0, 0, 0, 0, 1, -1, -1, -1, -1, 0, 0, 0, -1, 0, 0, 1)));
        CatEvenings cat = Situation.ONE_PIECE.make();
        cat.paw(KNOCK, 0);
        cat.paw(STEP, 2);
        cat.undo(2);
        cat.redo(1);
        due("digest() in the second of three evenings", cat.digest(), digestOf(List.of(
            1, 3, 1, 0, 0, 1, 1, 0,
            1, 1,
            -1, -1, -1, 0, 1, 2, 1, 0, 1, 0,
            0, 1, 0, 1, 1, 1, 2, 1, 0, 1,
            1, 0, 2, 2, 0, 0, -1, 1, 1, 0)));
    }

    /** Promise 32: "which wraps around as a 64-bit integer": with 60 evenings and 16 pieces over 600 times. */
    private static void promise32WrapsAround() {
        for (Situation situation : new Situation[] {Situation.CHAIN_OF_60, Situation.STAR_OF_60}) {
            due(situation.name() + ": digest()", situation.make().digest(), digestOf(numbersOf(situation)));
        }
    }

    /** Promise 32: "for each of the following numbers x", in the order of the document. */
    private static void promise32InEachSituation() {
        Situation[] more = {CORNERS, allKnocked(), allKnocked().then("goTo(9)", cat -> cat.goTo(9)),
            Situation.BRANCHED.then("goTo(4)", cat -> cat.goTo(4))};
        for (Situation situation : more) {
            due(situation.name() + ": digest()", situation.make().digest(), digestOf(numbersOf(situation)));
        }
        for (Situation situation : Situation.all()) {
            due(situation.name() + ": digest()", situation.make().digest(), digestOf(numbersOf(situation)));
        }
    }

    /** A new object for each evening, as an object is used for at most 512 calls. */
    private static List<Integer> numbersOf(Situation situation) {
        CatEvenings cat = situation.make();
        List<Integer> numbers = new ArrayList<>(List.of(cat.evening(), cat.evenings(), cat.pieces(), cat.catColumn(),
            cat.catRow(), cat.lying(), cat.ends(), cat.mostKnocked()));
        for (int piece = 0; piece < cat.pieces(); piece++) {
            numbers.add(cat.placeOf(piece));
            numbers.add(cat.lies(piece) ? 1 : 0);
        }
        for (int e = 0; e < cat.evenings(); e++) {
            CatEvenings asked = situation.make();
            int now = asked.evening();
            numbers.addAll(List.of(asked.hangsOn(e), asked.kindOf(e), asked.numberOf(e), asked.depthOf(e),
                asked.branches(e), asked.behind(e), asked.again(e), asked.lyingIn(e), asked.apart(e, now),
                asked.areAlike(e, now) ? 1 : 0));
        }
        return numbers;
    }
}

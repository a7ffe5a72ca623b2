import java.util.function.ToIntBiFunction;

/**
 * The edges of the evenings and of the ways between them, sentence by sentence: "Terms" and the promises 1, 4 to 12
 * and 17 to 26. What is quoted ahead of a test is the sentence that it holds.
 */
public final class EveningEdgesTest {
    private static final int STEP = Situation.STEP;
    private static final int KNOCK = Situation.KNOCK;
    private static final int SET_UP = Situation.SET_UP;
    private static final int PUSH = Situation.PUSH;
    private static final int LOW = Integer.MIN_VALUE;
    private static final int HIGH = Integer.MAX_VALUE;
    private static final int[] NOT_MANY = {LOW, -60, -1, 0, 61, HIGH};

    private static final Class<IllegalArgumentException> ILLEGAL = IllegalArgumentException.class;
    private static final Class<IllegalStateException> STATE = IllegalStateException.class;
    private static final Class<IndexOutOfBoundsException> MISSING = IndexOutOfBoundsException.class;

    private static final Check CHECK = new Check();

    public static void main(String[] args) {
        promise1NewObject();
        termsEachPawMakesTheNextEvening();
        termsOnePawTwiceMakesTwoEvenings();
        termsSixtyEveningsAtTheMost();
        promise4ManyIsNotOneToSixty();
        promise4FewerWereDone();
        promise4FewerOnTheWayThoughMoreEvenings();
        promise4ComesBackToHowItStood();
        promise5ManyIsNotOneToSixty();
        promise5NoEveningHangsOnOne();
        promise5NoneHangsSomewhereOnTheWay();
        termsDoingAgainComesToTheLastOneWasIn();
        termsUndoingAndDoingAgainPassOverEvenings();
        promise6NoSuchEvening();
        promise6LeastAndGreatestWays();
        promise6OneWasInEachOnTheWay();
        promises7And8EveningsFromFirstToLast();
        promise9PiecesFromNoneToSixteen();
        promises10And11CatAtTheCorners();
        promise12LyingFromNoneToAll();
        promise17HangsOn();
        promise18KindOf();
        promise19NumberOf();
        promise20DepthOf();
        promise21Branches();
        promise22Behind();
        promise23Again();
        promise24Meet();
        promise25Apart();
        promise26Ends();
        asksChangeNothing();
        CHECK.end();
    }

    private static void due(String call, Object got, Object want) {
        CHECK.due(call, got, want);
    }

    /** A chain of so many steps, with the evening of now at its end. */
    private static Situation chain(int steps) {
        return Situation.NEW.then(steps + " steps", cat -> {
            for (int step = 0; step < steps; step++) {
                cat.paw(STEP, step % 2 == 0 ? 1 : 5);
            }
        });
    }

    private static Situation goneTo(Situation situation, int evening) {
        return situation.then("goTo(" + evening + ")", cat -> cat.goTo(evening));
    }

    /** The least and the greatest int, and those next to the evenings that there are, in trees small and full. */
    private static void noSuchEvening(String call, ToIntBiFunction<CatEvenings, Integer> run) {
        for (Situation situation : Situation.all()) {
            int evenings = situation.make().evenings();
            for (int wrong : new int[] {LOW, -1, evenings, 60, HIGH}) {
                CHECK.refusedIn(situation, MISSING, call + " of " + wrong, cat -> run.applyAsInt(cat, wrong));
            }
            for (int right : new int[] {0, evenings - 1}) {
                boolean thrown = Check.answer(() -> run.applyAsInt(situation.make(), right)) instanceof String;
                due(situation.name() + ": " + call + " of " + right + " throws", thrown, false);
            }
        }
    }

    // ---- promise 1 and the evenings

    /** Promise 1: "Creates an empty board, the cat at 0, 0, in the evening 0"; nothing is there yet. */
    private static void promise1NewObject() {
        CatEvenings cat = new CatEvenings();
        due("evening()", cat.evening(), 0);
        due("evenings()", cat.evenings(), 1);
        due("pieces()", cat.pieces(), 0);
        due("catColumn()", cat.catColumn(), 0);
        due("catRow()", cat.catRow(), 0);
        due("lying()", cat.lying(), 0);
        for (int place = 0; place < 64; place++) {
            due("pieceAt of " + place, cat.pieceAt(place / 8, place % 8), -1);
        }
        due("hangsOn(0)", cat.hangsOn(0), -1);
        due("again(0)", cat.again(0), -1);
        due("ends()", cat.ends(), 1);
        due("lyingIn(0)", cat.lyingIn(0), 0);
        due("areAlike(0, 0)", cat.areAlike(0, 0), true);
    }

    /** Terms: "Each paw that is done makes a new evening, with the next number, from 1 on .. and is the .. of now". */
    private static void termsEachPawMakesTheNextEvening() {
        CatEvenings cat = new CatEvenings();
        due("the first paw", cat.paw(STEP, 0), 1);
        due("evening()", cat.evening(), 1);
        due("the second paw", cat.paw(STEP, 0), 2);
        cat.undo(2);
        due("a paw behind two undone ones", cat.paw(STEP, 2), 3);
        due("hangsOn(3)", cat.hangsOn(3), 0);
        due("evening()", cat.evening(), 3);
        cat.goTo(2);
        due("a paw behind goTo(2)", cat.paw(STEP, 2), 4);
        due("hangsOn(4)", cat.hangsOn(4), 2);
        due("evenings()", cat.evenings(), 5);
    }

    /** Terms: "Each paw that is done makes a new evening", the same paw behind its undoing too. */
    private static void termsOnePawTwiceMakesTwoEvenings() {
        CatEvenings cat = new CatEvenings();
        due("paw(0, 0)", cat.paw(STEP, 0), 1);
        cat.undo(1);
        due("paw(0, 0) again", cat.paw(STEP, 0), 2);
        due("branches(0)", cat.branches(0), 2);
        due("areAlike(1, 2)", cat.areAlike(1, 2), true);
    }

    /** Terms: "There are at most 60 of them, the evening 0 as well"; the last has the number 59. */
    private static void termsSixtyEveningsAtTheMost() {
        CatEvenings cat = chain(58).make();
        due("evenings()", cat.evenings(), 59);
        due("the 59th paw", cat.paw(STEP, 1), 59);
        due("evenings()", cat.evenings(), 60);
        CHECK.state(cat, "the 60th paw", () -> cat.paw(STEP, 5));
        due("undo(59) with 60 evenings", cat.undo(59), 0);
        due("redo(59) with 60 evenings", cat.redo(59), 59);
        due("goTo(30) with 60 evenings", cat.goTo(30), 29);
        CHECK.state(cat, "a paw in the evening 30 of 60", () -> cat.paw(STEP, 1));
    }

    // ---- undo

    /** Promise 4: "Throws IllegalArgumentException if many is not 1 to 60", ahead of IllegalStateException. */
    private static void promise4ManyIsNotOneToSixty() {
        for (Situation situation : Situation.all()) {
            for (int many : NOT_MANY) {
                CHECK.refusedIn(situation, ILLEGAL, "undo(" + many + ")", cat -> cat.undo(many));
            }
            CHECK.refusedIn(situation, STATE, "undo(60), an allowed number", cat -> cat.undo(60));
        }
    }

    /** Promise 4: "Throws IllegalStateException if fewer were done on the way from the evening 0 to that of now". */
    private static void promise4FewerWereDone() {
        for (int steps : new int[] {0, 1, 2, 30, 58, 59}) {
            if (steps > 0) {
                due(steps + " steps, undo(1)", chain(steps).make().undo(1), steps - 1);
                due(steps + " steps, undo(all)", chain(steps).make().undo(steps), 0);
            }
            CHECK.refusedIn(chain(steps), STATE, "undo(" + (steps + 1) + ")", cat -> cat.undo(steps + 1));
            CHECK.refusedIn(goneTo(chain(steps), 0), STATE, "undo(1)", cat -> cat.undo(1));
        }
    }

    /** Promise 4: "on the way from the evening 0 to that of now": undone paws and other branches count nothing. */
    private static void promise4FewerOnTheWayThoughMoreEvenings() {
        CHECK.refusedIn(Situation.BRANCHED, STATE, "undo(2)", cat -> cat.undo(2));
        due("undo(1)", Situation.BRANCHED.make().undo(1), 0);
        Situation undone = chain(5).then("undo(3)", cat -> cat.undo(3));
        CHECK.refusedIn(undone, STATE, "undo(3)", cat -> cat.undo(3));
        due("undo(2)", undone.make().undo(2), 0);
        CHECK.refusedIn(Situation.STAR_OF_60, STATE, "undo(2)", cat -> cat.undo(2));
        due("undo(1)", Situation.STAR_OF_60.make().undo(1), 0);
    }

    /** Promise 4: "Undoes the latest paws", each of the four kinds. */
    private static void promise4ComesBackToHowItStood() {
        CatEvenings cat = Situation.ONE_PIECE.make();
        cat.paw(KNOCK, 0);
        cat.paw(SET_UP, 0);
        cat.paw(PUSH, 0);
        cat.paw(STEP, 2);
        due("undo(1) of a step", cat.undo(1), 3);
        due("catColumn()", cat.catColumn(), 0);
        due("undo(1) of a push", cat.undo(1), 2);
        due("placeOf(0)", cat.placeOf(0), 1);
        due("catRow()", cat.catRow(), 0);
        due("undo(1) of setting up", cat.undo(1), 1);
        due("lies(0)", cat.lies(0), true);
        due("undo(1) of a knock", cat.undo(1), 0);
        due("lies(0)", cat.lies(0), false);
        due("evenings(), nothing is lost", cat.evenings(), 5);
    }

    // ---- redo

    /** Promise 5: "Throws IllegalArgumentException if many is not 1 to 60", ahead of IllegalStateException. */
    private static void promise5ManyIsNotOneToSixty() {
        for (Situation situation : Situation.all()) {
            for (int many : NOT_MANY) {
                CHECK.refusedIn(situation, ILLEGAL, "redo(" + many + ")", cat -> cat.redo(many));
                CHECK.refusedIn(goneTo(situation, 0), ILLEGAL, "redo(" + many + ")", cat -> cat.redo(many));
            }
            CHECK.refusedIn(goneTo(situation, 0), STATE, "redo(60), an allowed number", cat -> cat.redo(60));
        }
    }

    /** Promise 5: "Throws IllegalStateException if somewhere on this way no evening hangs on one": at its beginning. */
    private static void promise5NoEveningHangsOnOne() {
        for (Situation situation : Situation.atAnEnd()) {
            CHECK.refusedIn(situation, STATE, "redo(1) at an end", cat -> cat.redo(1));
        }
        Situation redone = chain(2).then("undo(1)", cat -> cat.undo(1)).then("redo(1)", cat -> cat.redo(1));
        CHECK.refusedIn(redone, STATE, "redo(1), all is done again", cat -> cat.redo(1));
        Situation behindUndone = chain(3).then("undo(2)", cat -> cat.undo(2)).then("a step", cat -> cat.paw(STEP, 0));
        CHECK.refusedIn(behindUndone, STATE, "redo(1) behind a new paw", cat -> cat.redo(1));
    }

    /** Promise 5: "somewhere on this way", at its end: as many as there are, and one more. */
    private static void promise5NoneHangsSomewhereOnTheWay() {
        for (int steps : new int[] {1, 2, 30, 58, 59}) {
            Situation undone = goneTo(chain(steps), 0);
            due(steps + " steps undone, redo(1)", undone.make().redo(1), 1);
            due(steps + " steps undone, redo(all)", undone.make().redo(steps), steps);
            CHECK.refusedIn(undone, STATE, "redo(" + (steps + 1) + ")", cat -> cat.redo(steps + 1));
        }
        Situation shortBranch = goneTo(Situation.BRANCHED, 0);
        due("redo(1) on the short branch", shortBranch.make().redo(1), 6);
        CHECK.refusedIn(shortBranch, STATE, "redo(2) on the short branch", cat -> cat.redo(2));
    }

    /** Terms: "that in which one was the last, of those that hang on it. (.. one that was the evening of now.)" */
    private static void termsDoingAgainComesToTheLastOneWasIn() {
        CatEvenings cat = new CatEvenings();
        for (int heading = 0; heading < 3; heading++) {
            cat.goTo(0);
            cat.paw(STEP, heading);
        }
        cat.undo(1);
        due("redo(1), the newest one", cat.redo(1), 3);
        cat.goTo(1);
        cat.undo(1);
        due("redo(1), gone to", cat.redo(1), 1);
        cat.goTo(2);
        cat.goTo(0);
        due("redo(1), gone to and back", cat.redo(1), 2);
        cat.undo(1);
        due("redo(1), done again before", cat.redo(1), 2);
        due("asking for the evening 1", cat.depthOf(1) + cat.lyingIn(1) + cat.apart(1, 2), 3);
        cat.undo(1);
        due("redo(1), no other one was only asked for", cat.redo(1), 2);
        CHECK.missing(cat, "goTo(4)", () -> cat.goTo(4));
        CHECK.state(cat, "redo(1) at an end", () -> cat.redo(1));
        cat.undo(1);
        due("redo(1), refused ways count nothing", cat.redo(1), 2);
    }

    /** Terms: "Undoing comes back to the evening on which that of now hangs", with many over all between. */
    private static void termsUndoingAndDoingAgainPassOverEvenings() {
        CatEvenings cat = Situation.BRANCHED.make();
        cat.goTo(3);
        due("undo(3)", cat.undo(3), 0);
        due("redo(2)", cat.redo(2), 2);
        due("redo(1), where one was", cat.redo(1), 3);
        cat.goTo(5);
        due("undo(4)", cat.undo(4), 0);
        due("redo(4)", cat.redo(4), 5);
        due("undo(2)", cat.undo(2), 2);
        due("again(2)", cat.again(2), 4);
        due("again(4)", cat.again(4), 5);
    }

    // ---- goTo

    /** Promise 6: "Throws IndexOutOfBoundsException if there is no such evening". */
    private static void promise6NoSuchEvening() {
        noSuchEvening("goTo", (cat, evening) -> cat.goTo(evening));
    }

    /** Promise 6: "Returns how many paws are undone and done again on this way": 0 to 59. */
    private static void promise6LeastAndGreatestWays() {
        for (Situation situation : Situation.all()) {
            int now = situation.make().evening();
            due(situation.name() + ": goTo(the same)", situation.make().goTo(now), 0);
            CHECK.changesNothing(situation, "goTo(the same)", cat -> cat.goTo(now));
        }
        due("goTo(0) in a chain", Situation.CHAIN_OF_60.make().goTo(0), 59);
        due("goTo(59) in a chain", goneTo(Situation.CHAIN_OF_60, 0).make().goTo(59), 59);
        due("goTo(58) in a chain", Situation.CHAIN_OF_60.make().goTo(58), 1);
        due("goTo(1) in a star", Situation.STAR_OF_60.make().goTo(1), 2);
        due("goTo(0) in a star", Situation.STAR_OF_60.make().goTo(0), 1);
        due("goTo(5)", Situation.BRANCHED.make().goTo(5), 5);
        due("goTo(3) from 5", goneTo(Situation.BRANCHED, 5).make().goTo(3), 3);
        due("goTo(2) from 5", goneTo(Situation.BRANCHED, 5).make().goTo(2), 2);
        due("goTo(5) from 2", goneTo(Situation.BRANCHED, 2).make().goTo(5), 2);
    }

    /** Promise 6: "over all those on the way of that of now and it, in each of which one was then". */
    private static void promise6OneWasInEachOnTheWay() {
        agains(Situation.BRANCHED, 6, 2, 4, -1, 5, -1, -1);
        agains(goneTo(Situation.BRANCHED, 3), 1, 2, 3, -1, 5, -1, -1);
        agains(goneTo(Situation.BRANCHED, 1), 1, 2, 4, -1, 5, -1, -1);
        agains(goneTo(goneTo(Situation.BRANCHED, 3), 5), 1, 2, 4, -1, 5, -1, -1);
        agains(goneTo(goneTo(Situation.BRANCHED, 3), 4), 1, 2, 4, -1, 5, -1, -1);
        agains(goneTo(goneTo(Situation.BRANCHED, 3), 6), 6, 2, 3, -1, 5, -1, -1);
        agains(goneTo(goneTo(Situation.BRANCHED, 3), 0), 1, 2, 3, -1, 5, -1, -1);
    }

    private static void agains(Situation situation, int... want) {
        CatEvenings cat = situation.make();
        for (int evening = 0; evening < want.length; evening++) {
            due(situation.name() + ": again(" + evening + ")", cat.again(evening), want[evening]);
        }
    }

    // ---- now

    /** Promises 7 and 8: "Returns the evening of now", 0 to 59, and "how many evenings there are", 1 to 60. */
    private static void promises7And8EveningsFromFirstToLast() {
        CatEvenings cat = new CatEvenings();
        for (int paw = 0; paw < 60; paw++) {
            due("evening()", cat.evening(), paw);
            due("evenings()", cat.evenings(), paw + 1);
            if (paw < 59) {
                cat.paw(STEP, paw % 2 == 0 ? 0 : 4);
            }
        }
        cat.undo(59);
        due("evening(), all undone", cat.evening(), 0);
        due("evenings(), all undone", cat.evenings(), 60);
    }

    /** Promise 9: "Returns how many pieces there are", 0 to 16, in each evening. */
    private static void promise9PiecesFromNoneToSixteen() {
        due("pieces() of a new object", new CatEvenings().pieces(), 0);
        due("pieces() behind steps alone", chain(3).make().pieces(), 0);
        due("pieces() with one", Situation.ONE_PIECE.make().pieces(), 1);
        due("pieces() with 16", Situation.SIXTEEN_PIECES.make().pieces(), 16);
        due("pieces() with 60 evenings", Situation.CHAIN_OF_60.make().pieces(), 16);
        due("pieces() in the evening 0", goneTo(Situation.CHAIN_OF_60, 0).make().pieces(), 16);
    }

    /** Promises 10 and 11: "Returns the column of the cat", "its row", 0 to 7. */
    private static void promises10And11CatAtTheCorners() {
        for (int[] corner : new int[][] {{0, 0}, {0, 7}, {7, 0}, {7, 7}}) {
            CatEvenings cat = new CatEvenings();
            Situation.walkTo(cat, corner[0], corner[1]);
            due("catColumn()", cat.catColumn(), corner[0]);
            due("catRow()", cat.catRow(), corner[1]);
        }
    }

    /** Promise 12: "Returns how many pieces lie", 0 to 16. */
    private static void promise12LyingFromNoneToAll() {
        CatEvenings cat = Situation.SIXTEEN_PIECES.make();
        for (int piece = 0; piece < 16; piece++) {
            due("lying()", cat.lying(), piece);
            Situation.walkTo(cat, piece / 4, piece % 4);
            cat.paw(KNOCK, piece);
        }
        due("lying(), all", cat.lying(), 16);
        cat.paw(SET_UP, 15);
        due("lying(), one is set up", cat.lying(), 15);
        cat.goTo(0);
        due("lying() in the evening 0", cat.lying(), 0);
    }

    // ---- the tree

    /** Promise 17: "Returns that on which it hangs; -1 for the evening 0", and its "Throws". */
    private static void promise17HangsOn() {
        noSuchEvening("hangsOn", (cat, evening) -> cat.hangsOn(evening));
        for (Situation situation : Situation.all()) {
            due(situation.name() + ": hangsOn(0)", situation.make().hangsOn(0), -1);
        }
        CatEvenings chain = Situation.CHAIN_OF_60.make();
        CatEvenings star = Situation.STAR_OF_60.make();
        for (int evening = 1; evening < 60; evening++) {
            due("hangsOn(" + evening + ") in a chain", chain.hangsOn(evening), evening - 1);
            due("hangsOn(" + evening + ") in a star", star.hangsOn(evening), 0);
        }
    }

    /** A paw of each kind, with the least and the greatest number that can be done. */
    private static CatEvenings eachPaw() {
        CatEvenings cat = Situation.SIXTEEN_PIECES.make();
        cat.paw(KNOCK, 0);
        cat.paw(SET_UP, 0);
        Situation.walkTo(cat, 2, 2);
        cat.paw(KNOCK, 15);
        cat.paw(SET_UP, 15);
        cat.paw(PUSH, 0);
        cat.goTo(6);
        cat.paw(PUSH, 7);
        cat.goTo(6);
        cat.paw(STEP, 0);
        cat.goTo(6);
        cat.paw(STEP, 7);
        return cat;
    }

    /** Promise 18: "Returns the kind of the paw that made it; -1 for the evening 0", and its "Throws". */
    private static void promise18KindOf() {
        noSuchEvening("kindOf", (cat, evening) -> cat.kindOf(evening));
        for (Situation situation : Situation.all()) {
            due(situation.name() + ": kindOf(0)", situation.make().kindOf(0), -1);
        }
        int[] kinds = {-1, KNOCK, SET_UP, STEP, STEP, KNOCK, SET_UP, PUSH, PUSH, STEP, STEP};
        CatEvenings cat = eachPaw();
        for (int evening = 0; evening < kinds.length; evening++) {
            due("kindOf(" + evening + ")", cat.kindOf(evening), kinds[evening]);
        }
    }

    /** Promise 19: "Returns the number of this paw; -1 for the evening 0", and its "Throws". */
    private static void promise19NumberOf() {
        noSuchEvening("numberOf", (cat, evening) -> cat.numberOf(evening));
        for (Situation situation : Situation.all()) {
            due(situation.name() + ": numberOf(0)", situation.make().numberOf(0), -1);
        }
        int[] numbers = {-1, 0, 0, 1, 1, 15, 15, 0, 7, 0, 7};
        CatEvenings cat = eachPaw();
        for (int evening = 0; evening < numbers.length; evening++) {
            due("numberOf(" + evening + ")", cat.numberOf(evening), numbers[evening]);
        }
    }

    /** Promise 20: "Returns how many paws lead to it from the evening 0", 0 to 59, and its "Throws". */
    private static void promise20DepthOf() {
        noSuchEvening("depthOf", (cat, evening) -> cat.depthOf(evening));
        CatEvenings chain = Situation.CHAIN_OF_60.make();
        CatEvenings star = Situation.STAR_OF_60.make();
        for (int evening = 0; evening < 60; evening++) {
            due("depthOf(" + evening + ") in a chain", chain.depthOf(evening), evening);
            due("depthOf(" + evening + ") in a star", star.depthOf(evening), evening == 0 ? 0 : 1);
        }
        due("depthOf(0) of a new object", new CatEvenings().depthOf(0), 0);
        due("depthOf(6), a late evening", Situation.BRANCHED.make().depthOf(6), 1);
    }

    /** Promise 21: "Returns how many evenings hang on it at once", 0 to 59, and its "Throws". */
    private static void promise21Branches() {
        noSuchEvening("branches", (cat, evening) -> cat.branches(evening));
        due("branches(0) of a new object", new CatEvenings().branches(0), 0);
        CatEvenings chain = Situation.CHAIN_OF_60.make();
        CatEvenings star = Situation.STAR_OF_60.make();
        for (int evening = 0; evening < 60; evening++) {
            due("branches(" + evening + ") in a chain", chain.branches(evening), evening == 59 ? 0 : 1);
            due("branches(" + evening + ") in a star", star.branches(evening), evening == 0 ? 59 : 0);
        }
        due("branches(0), over others not", Situation.BRANCHED.make().branches(0), 2);
    }

    /** Promise 22: "Returns how many hang on it, at once or over others", 0 to 59, and its "Throws". */
    private static void promise22Behind() {
        noSuchEvening("behind", (cat, evening) -> cat.behind(evening));
        due("behind(0) of a new object", new CatEvenings().behind(0), 0);
        CatEvenings chain = Situation.CHAIN_OF_60.make();
        CatEvenings star = Situation.STAR_OF_60.make();
        for (int evening = 0; evening < 60; evening++) {
            due("behind(" + evening + ") in a chain", chain.behind(evening), 59 - evening);
            due("behind(" + evening + ") in a star", star.behind(evening), evening == 0 ? 59 : 0);
        }
        int[] behind = {6, 4, 3, 0, 1, 0, 0};
        for (int evening = 0; evening < behind.length; evening++) {
            due("behind(" + evening + ")", Situation.BRANCHED.make().behind(evening), behind[evening]);
        }
    }

    /** Promise 23: "Returns to which one doing again would come from it; -1 if there is none", and its "Throws". */
    private static void promise23Again() {
        noSuchEvening("again", (cat, evening) -> cat.again(evening));
        due("again(0) of a new object", new CatEvenings().again(0), -1);
        CatEvenings chain = Situation.CHAIN_OF_60.make();
        CatEvenings star = Situation.STAR_OF_60.make();
        for (int evening = 0; evening < 60; evening++) {
            due("again(" + evening + ") in a chain", chain.again(evening), evening == 59 ? -1 : evening + 1);
            due("again(" + evening + ") in a star", star.again(evening), evening == 0 ? 59 : -1);
        }
        for (int evening = 1; evening < 60; evening++) {
            star.goTo(evening);
            due("again(0), one is in " + evening, star.again(0), evening);
        }
        for (Situation situation : Situation.all()) {
            againIsWhereRedoComes(situation);
        }
    }

    private static void againIsWhereRedoComes(Situation situation) {
        int evenings = situation.make().evenings();
        for (int evening = 0; evening < evenings; evening++) {
            CatEvenings cat = goneTo(situation, evening).make();
            int again = cat.again(evening);
            Object redone = Check.answer(() -> cat.redo(1));
            due(situation.name() + ": again(" + evening + ")", again, redone instanceof String ? -1 : redone);
        }
    }

    /** Promise 24: "on which both hang, at once or over others, or which is one of them", and its "Throws". */
    private static void promise24Meet() {
        noSuchEvening("meet with one", (cat, wrong) -> cat.meet(wrong, 0));
        noSuchEvening("meet with other", (cat, wrong) -> cat.meet(0, wrong));
        noSuchEvening("meet with both", (cat, wrong) -> cat.meet(wrong, wrong));
        due("meet(0, 0) of a new object", new CatEvenings().meet(0, 0), 0);
        CatEvenings chain = Situation.CHAIN_OF_60.make();
        CatEvenings star = Situation.STAR_OF_60.make();
        for (int e = 0; e < 60; e++) {
            int f = 59 - e;
            due("meet in a chain", chain.meet(e, f), Math.min(e, f));
            due("meet of one in a chain", chain.meet(e, e), e);
            due("meet in a star", star.meet(e, f), 0);
            due("meet of one in a star", star.meet(e, e), e);
        }
        int[][] meets = {{3, 5, 2}, {3, 4, 2}, {2, 5, 2}, {4, 5, 4}, {1, 3, 1}, {5, 6, 0}, {0, 5, 0}, {3, 6, 0}};
        CatEvenings cat = Situation.BRANCHED.make();
        for (int[] meet : meets) {
            due("meet(" + meet[0] + ", " + meet[1] + ")", cat.meet(meet[0], meet[1]), meet[2]);
            due("meet(" + meet[1] + ", " + meet[0] + ")", cat.meet(meet[1], meet[0]), meet[2]);
        }
    }

    /** Promise 25: "Returns how many paws are undone and done on their way", 0 to 59, and its "Throws". */
    private static void promise25Apart() {
        noSuchEvening("apart with one", (cat, wrong) -> cat.apart(wrong, 0));
        noSuchEvening("apart with other", (cat, wrong) -> cat.apart(0, wrong));
        noSuchEvening("apart with both", (cat, wrong) -> cat.apart(wrong, wrong));
        due("apart(0, 0) of a new object", new CatEvenings().apart(0, 0), 0);
        CatEvenings chain = Situation.CHAIN_OF_60.make();
        CatEvenings star = Situation.STAR_OF_60.make();
        for (int e = 0; e < 60; e++) {
            int f = 59 - e;
            due("apart in a chain", chain.apart(e, f), Math.abs(e - f));
            due("apart of one in a chain", chain.apart(e, e), 0);
            due("apart in a star", star.apart(e, f), e == 0 || f == 0 ? 1 : 2);
            due("apart of one in a star", star.apart(e, e), 0);
        }
        CatEvenings twoBranches = chain(29).then("another one", cat -> {
            cat.goTo(0);
            for (int step = 0; step < 30; step++) {
                cat.paw(STEP, step % 2 == 0 ? 2 : 6);
            }
        }).make();
        due("apart(29, 59), over the evening 0", twoBranches.apart(29, 59), 59);
        due("apart(59, 29), over the evening 0", twoBranches.apart(59, 29), 59);
    }

    /** Promise 26: "Returns how many evenings there are on which none hangs", 1 to 59. */
    private static void promise26Ends() {
        due("ends() of a new object", new CatEvenings().ends(), 1);
        due("ends() of a chain", Situation.CHAIN_OF_60.make().ends(), 1);
        due("ends() of a chain, undone", goneTo(Situation.CHAIN_OF_60, 0).make().ends(), 1);
        due("ends() of a star", Situation.STAR_OF_60.make().ends(), 59);
        due("ends() of three branches", Situation.BRANCHED.make().ends(), 3);
        CatEvenings cat = chain(2).make();
        cat.undo(2);
        due("ends(), all undone", cat.ends(), 1);
        cat.paw(STEP, 0);
        due("ends(), a second branch", cat.ends(), 2);
        cat.paw(STEP, 0);
        due("ends(), the second branch is longer", cat.ends(), 2);
    }

    /** Each call that only asks leaves all as it was. */
    private static void asksChangeNothing() {
        for (Situation situation : Situation.all()) {
            CHECK.changesNothing(situation, "asks of now", cat -> {
                cat.evening();
                cat.evenings();
                cat.pieces();
                cat.catColumn();
                cat.catRow();
                cat.lying();
                cat.ends();
                cat.pieceAt(0, 0);
            });
            int last = situation.make().evenings() - 1;
            CHECK.changesNothing(situation, "asks of evenings", cat -> {
                cat.hangsOn(last);
                cat.kindOf(last);
                cat.numberOf(last);
                cat.depthOf(last);
                cat.branches(0);
                cat.behind(0);
                cat.again(0);
                cat.meet(0, last);
                cat.apart(last, 0);
            });
        }
    }
}

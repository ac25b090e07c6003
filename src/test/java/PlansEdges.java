/** Boundary cases of promises 25 to 31: plans, and a game. */
final class PlansEdges implements Answers {

    /** Two are promised to one WIND; it courts the second, who GAINS more, only while the first is HIDDEN. */
    private static Run rivals() {
        return new Run().due(0, "girl", 2, 4, 1).due(1, "girl", 2, 0, 1).due(0, "wind", 0, 5, 0, 15).due(6, "promise", 0, 0)
            .due(6, "promise", 1, 0);
    }

    /** The last of six is promised to a WIND that BLOWS from MONTH 1 on, and loses it in MONTH 0 if she isn't HIDDEN. */
    private static Run lastOfSix() {
        Run x = new Run().due(0, "wind", 0, 5, 1, 15);
        for (int g = 0; g < 6; g++) {
            x.due(g, "girl", 2, 0, 1);
        }
        return x.due(6, "promise", 5, 0);
    }

    static void promise25NIs0To4() {
        new Run().bounds(0, 4, 0, "best", 0);
        Run.full().bounds(0, 4, 0, "best", 0);
    }

    static void promise25OfNoMonths() {
        rivals().still(0, "best", 0).still(5, "best", 1);
    }

    static void promise25OfFour() {
        rivals().still(15, "best", 3).still(20, "best", 4);
    }

    static void promise25FewerIfItIsOver() {
        rivals().due(12, "ends", 2).still(5, "best", 1).still(10, "best", 2).still(10, "best", 3).still(10, "best", 4);
    }

    static void promise25WhenItIsOver() {
        rivals().due(12, "ends", 1).due(3, "month").still(0, "best", 1).still(0, "best", 4).still(BAD, "best", 5);
    }

    static void promise25NobodyIsThere() {
        new Run().still(0, "best", 0).still(0, "best", 4);
    }

    static void promise25WhoIsHiddenKeepsHerFaith() {
        lastOfSix().still(0, "best", 1).still(5, "best", 2).still(15, "best", 4);
    }

    static void promise25WhoIsHiddenDoesNothing() {
        new Run().pair(2, 9, 5, 1, 1).told(1, "girl leave;").still(0, "best", 1).still(5, "best", 2).still(1, "ith", 2, 0);
    }

    static void promise25ItIsStillPromisedToWhoIsHidden() {
        // were it free, the second would turn to it while the first is HIDDEN
        Run x = new Run().due(0, "girl", 2, 4, 9).due(1, "girl", 2, 0, 9).due(0, "wind", 0, 5, 0, 15).due(6, "promise", 0, 0)
            .told(1, "girl turn;");
        x.still(3, "best", 1).still(0, "ith", 1, 0);
    }

    static void promise26NIs0To4() {
        new Run().bounds(0, 4, 0, "ith", 4, 0);
    }

    static void promise26IIs0To3() {
        new Run().bounds(0, 3, 1, "ith", 4, 0);
        Run.full().bounds(0, 3, 1, "ith", 1, 0);
    }

    static void promise26ItHasNotSoMany() {
        rivals().still(NONE, "ith", 0, 0).still(1, "ith", 1, 0).still(NONE, "ith", 1, 1).still(1, "ith", 3, 2).still(NONE, "ith", 3, 3)
            .still(1, "ith", 4, 3);
    }

    static void promise26BadAheadOfNone() {
        new Run().still(BAD, "ith", 0, 4).still(BAD, "ith", 0, -1).still(BAD, "ith", -1, 0).still(BAD, "ith", 5, 3);
        new Run().due(12, "ends", 1).due(0, "month").still(BAD, "ith", 5, 0).still(BAD, "ith", 4, 4).still(NONE, "ith", 4, 3);
    }

    static void promise26FewerIfItIsOver() {
        rivals().due(12, "ends", 3).due(3, "month").still(0, "ith", 4, 1).still(NONE, "ith", 4, 2).times(2, "month")
            .still(NONE, "ith", 4, 0);
    }

    static void promise26TheLesserActWhereTheyAreUnlikeFirst() {
        lastOfSix().still(6, "ith", 2, 0).still(0, "ith", 2, 1);
        new Run().pair(2, 1, 5, 1, 15).pair(2, 1, 5, 1, 15).still(5, "best", 2).still(1, "ith", 2, 0).still(0, "ith", 2, 1)
            .still(4, "ways", 2);
    }

    static void promise26NobodyIsThere() {
        new Run().still(0, "ith", 1, 0).still(0, "ith", 4, 3);
    }

    static void promise27NIs0To4() {
        new Run().bounds(0, 4, 0, "ways", 0);
        Run.full().bounds(0, 4, 0, "ways", 0);
    }

    static void promise27TheOnlyPlanOfNoMonths() {
        rivals().still(1, "ways", 0).due(12, "ends", 1).due(3, "month").still(1, "ways", 4);
    }

    static void promise27NobodyIsThere() {
        new Run().still(1, "ways", 4);
    }

    static void promise27AllPlans() {
        lastOfSix().due(0, "promise", 5, -1).still(7, "ways", 1).still(2401, "ways", 4);
    }

    static void promise27OneOnly() {
        rivals().still(1, "ways", 4);
    }

    static void promise27FewerIfItIsOver() {
        new Run().due(0, "girl", 2, 0, 1).due(12, "ends", 3).still(4, "ways", 2).still(8, "ways", 3).still(8, "ways", 4);
    }

    /** DOWRIES 1, 2 and 9; the first two promised to a WIND that doesn't BLOW, the third to none. */
    private static Run calm() {
        Run x = new Run().due(0, "girl", 2, 0, 1).due(1, "girl", 2, 0, 2).due(2, "girl", 2, 0, 9).due(0, "wind", 0, 5, 15, 15);
        return x.due(6, "promise", 0, 0).due(6, "promise", 1, 0);
    }

    static void promise28NIs0To4() {
        calm().bounds(0, 4, 0, "bound", 0, 0);
    }

    static void promise28ASetOfSuchAsThereAre() {
        new Run().bounds(0, 0, 1, "bound", 0, 0);
        new Run().due(0, "girl", 1, 0, 1).bounds(0, 1, 1, "bound", 0, 0);
        calm().bounds(0, 7, 1, "bound", 1, 0).still(BAD, "bound", 1, 9).still(BAD, "bound", 1, 64).still(BAD, "bound", 1, -8);
        lastOfSix().bounds(0, 63, 1, "bound", 2, 0).still(BAD, "bound", 2, 64);
    }

    static void promise28OfNobody() {
        new Run().still(0, "bound", 4, 0);
        calm().still(0, "bound", 4, 0);
    }

    static void promise28OfNoMonths() {
        calm().still(0, "bound", 0, 3).still(NONE, "bound", 0, 4).still(NONE, "bound", 0, 7);
    }

    static void promise28NoneToFour() {
        calm().still(0, "bound", 1, 2).still(1, "bound", 2, 2).still(3, "bound", 4, 2).still(4, "bound", 4, 1).still(3, "bound", 3, 1);
    }

    static void promise28EachOfThemBehindOnePlan() {
        calm().still(1, "bound", 1, 3).still(NONE, "bound", 2, 3);
    }

    static void promise28PromisedToWhateverWind() {
        new Run().pair(2, 1, 5, 9, 9).due(1, "wind", 0, 5, 0, 3).due(1, "girl", 2, 0, 1).told(1, "girl turn;").still(0, "bound", 1, 1)
            .still(1, "bound", 1, 2).still(1, "bound", 1, 3);
    }

    static void promise28WhenItIsOver() {
        calm().due(12, "ends", 1).due(0, "month").still(0, "bound", 4, 2).still(NONE, "bound", 4, 1).still(NONE, "bound", 4, 3)
            .still(BAD, "bound", 4, 8);
    }

    static void promise29NIs0To4() {
        calm().bounds(0, 4, 0, "bars", 0, 0);
    }

    static void promise29ASetOfSuchAsThereAre() {
        new Run().bounds(0, 0, 1, "bars", 0, 0);
        new Run().due(0, "girl", 1, 0, 1).bounds(0, 1, 1, "bars", 0, 0);
        calm().bounds(0, 7, 1, "bars", 1, 0).still(BAD, "bars", 1, 9).still(BAD, "bars", 1, 64).still(BAD, "bars", 1, -8);
        lastOfSix().bounds(0, 63, 1, "bars", 2, 0).still(BAD, "bars", 2, 64);
    }

    static void promise29OfNobody() {
        new Run().still(NONE, "bars", 4, 0);
        calm().still(NONE, "bars", 4, 0);
    }

    static void promise29EachBehindSomePlanThoughNotBehindOne() {
        calm().still(NONE, "bars", 2, 3).still(NONE, "bars", 4, 3).still(2, "bars", 4, 7);
    }

    static void promise29TheLeastOfThem() {
        calm().due(0, "promise", 0, -1).still(0, "bars", 4, 7).still(2, "bars", 4, 6).still(NONE, "bars", 4, 2);
        lastOfSix().still(0, "bars", 1, 63).still(4, "bars", 1, 48).still(NONE, "bars", 1, 32);
        lastOfSix().due(0, "promise", 5, -1).still(5, "bars", 1, 32);
    }

    static void promise29AsItIsAtTheTime() {
        calm().still(NONE, "bars", 1, 3).due(0, "promise", 0, -1).still(0, "bars", 1, 3).due(0, "promise", 1, -1).still(1, "bars", 1, 2)
            .due(6, "promise", 0, 0).still(1, "bars", 1, 3);
    }

    static void promise28AsItIsAtTheTime() {
        calm().still(1, "bound", 1, 1).due(0, "promise", 0, -1).still(NONE, "bound", 1, 1).due(6, "promise", 0, 0).still(1, "bound", 1, 1);
    }

    static void promise29OfNoMonths() {
        calm().still(NONE, "bars", 0, 3).still(2, "bars", 0, 7);
    }

    static void promise29WhenItIsOver() {
        calm().due(12, "ends", 1).due(0, "month").still(0, "bars", 4, 3).still(NONE, "bars", 4, 2);
    }

    static void promise30NIs1To4() {
        new Run().bounds(1, 4, 0, "game", 1);
        Run.full().bounds(1, 4, 0, "game", 1);
    }

    static void promise30InTurn() {
        new Run().pair(2, 9, 5, 0, 15).still(5, "game", 1).still(5, "game", 2).still(10, "game", 3).still(10, "game", 4);
    }

    static void promise30TheOtherOneMayHideNobody() {
        // HIDDEN in a calm she would stay promised
        new Run().pair(2, 1, 5, 2, 15).still(0, "game", 3).still(0, "play", 3);
        new Run().pair(2, 2, 5, 2, 15).still(5, "game", 3).still(1, "play", 3);
        rivals().still(5, "game", 1).still(8, "game", 2).still(11, "game", 3).still(11, "game", 4);
    }

    static void promise30TillItIsOver() {
        new Run().pair(2, 9, 5, 0, 15).due(12, "ends", 3).still(10, "game", 3).still(10, "game", 4).due(5, "month").still(5, "game", 1)
            .still(5, "game", 4);
    }

    static void promise30WhenItIsOver() {
        new Run().pair(2, 9, 5, 0, 15).due(12, "ends", 1).due(5, "month").still(0, "game", 1).still(0, "game", 4).still(BAD, "game", 0);
    }

    static void promise30NobodyIsThere() {
        new Run().still(0, "game", 1).still(0, "game", 4);
    }

    static void promise31NIs1To4() {
        new Run().bounds(1, 4, 0, "play", 1);
        Run.full().bounds(1, 4, 0, "play", 1);
    }

    static void promise31NoneWhenItIsOver() {
        rivals().due(12, "ends", 1).still(1, "play", 4).due(3, "month").still(NONE, "play", 1).still(NONE, "play", 4);
    }

    static void promise31BadAheadOfNone() {
        new Run().due(12, "ends", 1).due(0, "month").still(BAD, "play", 0).still(BAD, "play", 5).still(BAD, "play", LOW)
            .still(BAD, "play", HIGH);
    }

    static void promise31TheLeastAct() {
        new Run().pair(2, 1, 5, 1, 2).still(0, "play", 1).still(0, "game", 2).still(0, "play", 2).still(5, "game", 3).still(1, "play", 3);
    }

    static void promise31TheGreatestAct() {
        lastOfSix().still(0, "game", 2).still(0, "play", 2).still(5, "game", 3).still(6, "play", 3);
    }

    static void promise31NobodyIsThere() {
        new Run().still(0, "play", 1).still(0, "play", 4);
    }
}
